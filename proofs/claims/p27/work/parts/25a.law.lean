theorem zD_comm {A0 : Nat → Prop} {w1 w2 : va_W} (h : va_D A0 (w1 ++ w2)) : va_D A0 (w2 ++ w1) := (zD_r h).app (zD_l h) (fun i j p q hi hj z => zD_ne h (zA_in hj) (by rw [← z]; exact zA_in hi))
theorem zP_comm {D : va_G} {cl : List vw_C} {w1 w2 : va_W} {H : Heap} (h : va_P D cl (w1 ++ w2) H) : va_P D cl (w2 ++ w1) H := (zP_r h).app (zP_l h)
abbrev lA (s : State) : Nat → Prop := fun q => s.heap.size ≤ q
/-- what stands all the way through the law -/
def LC (p : Program) (s : State) (mi : MethodId) (c : Code) (b L : Nat) (xs : Nat → Int32) : Prop :=
  p.tables.exec = Jvm.exec ∧ c.code = code ∧ c.maxLocals = 9 ∧ s.vm.findClass RL = some mi.cls ∧ (∀ w ∈ wsL_law, w.before #[Value.ref b] s = true) ∧ va_X b L xs s s.heap ∧ b < s.heap.size ∧ L ≤ 260
set_option maxRecDepth 20000 in
theorem law_G {s : State} {args : Array Value} (hts : ∀ w ∈ lw_tbl, w.before args s = true) : ∃ G : zG, zK G s ∧ va_AO RX0 s := by
  obtain ⟨c0, i0, k0⟩ := u_known (C := RX0) (T := TX0) (N := 10) (n := 10) hts inX0 (hts (.instantiable RX0 10) (List.mem_of_getElem? (i := 21) (by decide +kernel)))
  obtain ⟨c1, i1, k1⟩ := u_known (C := RX1) (T := TX1) (N := 1) (n := 1) hts inX1 (hts (.instantiable RX1 1) (List.mem_of_getElem? (i := 85) (by decide +kernel)))
  obtain ⟨c2, i2, k2⟩ := u_known (C := RX2) (T := TX2) (N := 3) (n := 3) hts inX2 (hts (.instantiable RX2 3) (List.mem_of_getElem? (i := 66) (by decide +kernel)))
  obtain ⟨c3, i3, k3⟩ := u_known (C := RX3) (T := TX3) (N := 2) (n := 2) hts inX3 (hts (.instantiable RX3 2) (List.mem_of_getElem? (i := 95) (by decide +kernel)))
  obtain ⟨c4, i4, k4⟩ := u_known (C := RX4) (T := TX4) (N := 4) (n := 4) hts inX4 (hts (.instantiable RX4 4) (List.mem_of_getElem? (i := 13) (by decide +kernel)))
  obtain ⟨cI, kI, pI, a1, a2, a3⟩ := Cond.arrayClass_spec (hts (.arrayClass .int) (List.mem_of_getElem? (i := 64) (by decide +kernel)))
  obtain ⟨cC, kC, pC, b1, b2, b3⟩ := Cond.arrayClass_spec (hts (.arrayClass .char) (List.mem_of_getElem? (i := 107) (by decide +kernel)))
  obtain ⟨cL, kL, pL, e1, e2, e3⟩ := Cond.arrayClass_spec (hts (.arrayClass .long) (List.mem_of_getElem? (i := 569) (by rfl)))
  have hO := hts (.arrayOver (.object RX0)) (List.mem_of_getElem? (i := 72) (by decide +kernel))
  obtain ⟨pO, cO, kO, d1, d2, d3, d4, d5⟩ := Cond.arrayOver_spec hO
  refine ⟨((fun k => if k = 0 then c0 else if k = 1 then c1 else if k = 2 then c2 else if k = 3 then c3 else c4, fun k => if k = 0 then i0 else if k = 1 then i1 else if k = 2 then i2 else if k = 3 then i3 else i4), cI, cC, cO, cL), ⟨⟨?_, ?_⟩, ?_⟩, va_AO.of hO⟩
  · intro k q hq
    match k, hq with
    | 0, hq => cases hq; exact k0
    | 1, hq => cases hq; exact k1
    | 2, hq => cases hq; exact k2
    | 3, hq => cases hq; exact k3
    | 4, hq => cases hq; exact k4
    | k + 5, hq => simp [vwCl] at hq
  · intro k q hq
    match k, hq with
    | 0, hq => cases hq; exact ⟨law_arr a2 a3, a1⟩
    | 1, hq => cases hq; exact ⟨law_arr b2 b3, b1⟩
    | 2, hq => cases hq; exact ⟨law_arr d3 d4, kO, pO, d3, d4, d1, d5⟩
    | 3, hq => cases hq; exact ⟨law_arr e2 e3, e1⟩
    | k + 4, hq => simp [zTys] at hq
  · exact ⟨va_Nw.of rfl (hts (.methodLinkNest RX4 25 yX1_init "MapSheets") (List.mem_of_getElem? (i := 86) (by decide +kernel))),
      va_Nw.of rfl (hts (.methodLinkNest RX4 32 yX3_init "MapSheets") (List.mem_of_getElem? (i := 96) (by decide +kernel))),
      va_Nw.of rfl (hts (.methodLinkNest RX0 53 yX4_copyRow "MapSheets") (List.mem_of_getElem? (i := 339) (by decide +kernel))),
      va_Nw.of rfl (hts (.methodLinkNest RX0 65 yX4_isWithin "MapSheets") (List.mem_of_getElem? (i := 374) (by decide +kernel))),
      va_Nw.of rfl (hts (.methodLinkNest RX0 97 yX4_exchange "MapSheets") (List.mem_of_getElem? (i := 379) (by decide +kernel))),
      va_Nw.of rfl (hts (.methodLinkNest RX0 93 yX4_valueAt "MapSheets") (List.mem_of_getElem? (i := 143) (by decide +kernel))),
      va_Nw.of rfl (hts (.methodLinkNest RX1 51 yX4_valueAt "MapSheets") (List.mem_of_getElem? (i := 227) (by decide +kernel))), trivial⟩
set_option maxHeartbeats 8000000 in
set_option maxRecDepth 100000 in
theorem law_fin {p : Program} {l : Launch} {e : Env} {s : State} {mi : MethodId} {below : List Frame} {meth : Method} {c : Code} {Q : State → Prop} {b L : Nat} {xs : Nat → Int32} {G : zG} {q : Nat → Nat} {ad : Nat → Nat → Nat} {σ : Nat → Nat} {T : Nat → Nat → Nat} {o n : Nat} {f : Nat → Int32} {x : Nat → Nat} {len : Nat} {N : Nat} {H : Heap} {locs : List Loc} {ls : Array Slot} {tn j : Nat} (C0 : LC p s mi c b L xs) (hG : zK G s) (hend : ∀ (H : Heap) (ls : Array Slot), W p l e room_1 s mi #[Value.ref b] below meth c H [] 600000 7302249 Q (F0 mi 171 ls [])) (hJ : Jv N σ o n) (hP : va_P G.1 vwCl ((wL G q σ) ++ wX G ad σ T o n f x len) H) (hD : va_D (lA s) ((wL G q σ) ++ wX G ad σ T o n f x len)) (hS : va_S (lA s) s.heap H locs) (hl : lv_has ls 9 [(0, .ref b), (1, .ref (ad 0 0)), (2, .ref (q 0)), (3, .ref (q 1)), (4, .ref (q 2)), (5, .ref (q 3)), (6, .int (nI 1)), (7, .int (nI tn)), (8, .int (nI j))]) : W p l e room_1 s mi #[Value.ref b] below meth c H locs 600000 7302249 Q (F0 mi 145 ls []) := by
  obtain ⟨hx, hb, hml, hown, hts, hX, hbl, hL⟩ := id C0
  obtain ⟨hO, hC, ho, hn, hM⟩ := id hJ
  have hs := hO.lS
  have hne := hO.lE
  refine lv_iload hx hb dL_law_145 (lv_at hl 6 rfl) ?_
  refine lv_if_eq (tgt := 175) hx hb dL_law_147 (by decide) (fun h147 => ?_) (fun h147 => ?_)
  · skip
    have h147 : 1 = 0 := (z_eq0 (by omega)).mp h147
    exfalso; omega
  · skip
    have h147 : ¬ (1 = 0) := fun q => h147 ((z_eq0 (by omega)).mpr q)
    have h147 : 0 < 1 := Nat.pos_of_ne_zero h147
    refine lv_aload_n hx hb dL_law_150 rfl (lv_at hl 1 rfl) ?_
    refine lv_bipush (v := nI 15) hx hb dL_law_151 (by decide) ?_
    refine zwrR (G := G) (w1 := (wL G q σ)) (wc := wX G ad σ T o n f x len) (wc' := wX G ad σ T o n f x len) (va_runV (As := [.int (nI 15)]) (rest := []) ⟨hx, hb, hml, hown, hts⟩ (kX4_count_inv l G ad σ T o n f x len (nI 15) (hO) (by omega) (by omega) (fun z => absurd z.2 (by decide +kernel)) (zD_any (zD_r hD))) (cwV 1 hts gL_law_X4_count rfl rfl rfl (by decide +kernel) ⟨Nat.le_of_ble_eq_true rfl, Nat.le_of_ble_eq_true rfl⟩) (zPreV hG (va_recv (q0 := 0) (ci := 4) hG.1 (zP_r hP) rfl rfl) (zP_r hP)) rfl rfl hl.1 rfl (lv_room (Nat.le_of_ble_eq_true rfl)) dL_law_153 ⟨Nat.le_of_ble_eq_true rfl, Nat.le_of_ble_eq_true rfl⟩) hP hD hS (wX_map ..) (fun H locs hP hD hS => ?_)
    refine lv_iconst (v := (-1)) hx hb dL_law_156 (by decide) ?_
    refine lv_icmp_ne (tgt := 175) hx hb dL_law_157 (by decide) (fun h157 => ?_) (fun h157 => ?_)
    · skip
      exact absurd rfl h157
    · skip
      refine lv_aload_n hx hb dL_law_160 rfl (lv_at hl 1 rfl) ?_
      refine lv_iconst (v := nI 0) hx hb dL_law_161 (by decide) ?_
      refine lv_bipush (v := nI 10) hx hb dL_law_162 (by decide) ?_
      refine zwrR (G := G) (w1 := (wL G q σ)) (wc := wX G ad σ T o n f x len) (wc' := wX G ad σ T o n f x len) (va_runV (As := [.int (nI 0), .int (nI 10)]) (rest := []) ⟨hx, hb, hml, hown, hts⟩ (kX4_meaning_inv l G ad σ T o n f x len (nI 0) (nI 10) (hO) (by omega) (by omega) (fun z => absurd z.2.2 (by decide +kernel)) (zD_any (zD_r hD))) (cwV 2 hts gL_law_X4_meaning rfl rfl rfl (by decide +kernel) ⟨Nat.le_of_ble_eq_true rfl, Nat.le_of_ble_eq_true rfl⟩) (zPreV hG (va_recv (q0 := 0) (ci := 4) hG.1 (zP_r hP) rfl rfl) (zP_r hP)) rfl rfl hl.1 rfl (lv_room (Nat.le_of_ble_eq_true rfl)) dL_law_164 ⟨Nat.le_of_ble_eq_true rfl, Nat.le_of_ble_eq_true rfl⟩) hP hD hS (wX_map ..) (fun H locs hP hD hS => ?_)
      refine lv_iconst (v := (-1)) hx hb dL_law_167 (by decide) ?_
      refine lv_icmp_ne (tgt := 175) hx hb dL_law_168 (by decide) (fun h168 => ?_) (fun h168 => ?_)
      · skip
        exact absurd rfl h168
      · skip
        exact va_forget hS.2.2 (hend _ _)
set_option maxHeartbeats 8000000 in
set_option maxRecDepth 100000 in
theorem law_turn {p : Program} {l : Launch} {e : Env} {s : State} {mi : MethodId} {below : List Frame} {meth : Method} {c : Code} {Q : State → Prop} {b L : Nat} {xs : Nat → Int32} {G : zG} {q : Nat → Nat} {ad : Nat → Nat → Nat} {σ : Nat → Nat} {T : Nat → Nat → Nat} {o n : Nat} {f : Nat → Int32} {x : Nat → Nat} {len : Nat} {N : Nat} {H : Heap} {locs : List Loc} {ls : Array Slot} {tn j : Nat} (C0 : LC p s mi c b L xs) (hG : zK G s) (hend : ∀ (H : Heap) (ls : Array Slot), W p l e room_1 s mi #[Value.ref b] below meth c H [] 600000 7302249 Q (F0 mi 171 ls [])) (hJ : Jv N σ o n) (hNN : N + 1 < 100000) (hj : j < 900) (kk : ∀ (σ : Nat → Nat) (T : Nat → Nat → Nat) (o n : Nat) (f : Nat → Int32) (H : Heap) (locs : List Loc) (ls : Array Slot), Jv (N + 1) σ o n → va_P G.1 vwCl (wL G q σ ++ wX G ad σ T o n f x len) H → va_D (lA s) (wL G q σ ++ wX G ad σ T o n f x len) → va_S (lA s) s.heap H locs → lv_has ls 9 [(0, .ref b), (1, .ref (ad 0 0)), (2, .ref (q 0)), (3, .ref (q 1)), (4, .ref (q 2)), (5, .ref (q 3)), (6, .int (nI 1)), (7, .int (nI tn)), (8, .int (nI (j + 1)))] → W p l e room_1 s mi #[Value.ref b] below meth c H locs 600000 7302249 Q (F0 mi 79 ls [])) (hP : va_P G.1 vwCl ((wL G q σ) ++ wX G ad σ T o n f x len) H) (hD : va_D (lA s) ((wL G q σ) ++ wX G ad σ T o n f x len)) (hS : va_S (lA s) s.heap H locs) (hl : lv_has ls 9 [(0, .ref b), (1, .ref (ad 0 0)), (2, .ref (q 0)), (3, .ref (q 1)), (4, .ref (q 2)), (5, .ref (q 3)), (6, .int (nI 1)), (7, .int (nI tn)), (8, .int (nI j))]) : W p l e room_1 s mi #[Value.ref b] below meth c H locs 600000 7302249 Q (F0 mi 91 ls []) := by
  obtain ⟨hx, hb, hml, hown, hts, hX, hbl, hL⟩ := id C0
  obtain ⟨hO, hC, ho, hn, hM⟩ := id hJ
  have hs := hO.lS
  have hne := hO.lE
  refine lv_aload_n hx hb dL_law_91 rfl (lv_at hl 1 rfl) ?_
  refine lv_aload_n hx hb dL_law_92 rfl (lv_at hl 2 rfl) ?_
  refine lv_aload_n hx hb dL_law_93 rfl (lv_at hl 3 rfl) ?_
  refine lv_aload hx hb dL_law_94 (lv_at hl 4 rfl) ?_
  refine lv_aload hx hb dL_law_96 (lv_at hl 5 rfl) ?_
  refine lv_aload_n hx hb dL_law_98 rfl (lv_at hl 0 rfl) ?_
  refine lv_iconst (v := nI 1) hx hb dL_law_99 (by decide) ?_
  refine lv_iload hx hb dL_law_100 (lv_at hl 8 rfl) ?_
  refine lv_iadd hx hb dL_law_102 ?_
  refine lv_topi (nm_r (e' := nI (1 + j)) (nI_add _ _) ?_)
  have hXn : va_X b L xs s H := hX.kept (hS.2.1 b hbl (Nat.not_le.mpr hbl))
  have hbn : b < H.size := Nat.lt_of_lt_of_le hbl hS.1
  refine zrd (v := .int (scl xs L (1 + j))) (va_runS (As := [.ref b, .int (nI (1 + j))]) (rest := [.ref (q 3), .ref (q 2), .ref (q 1), .ref (q 0), .ref (ad 0 0)]) ⟨hx, hb, hml, hown, hts⟩ (kL_cell l G b L xs (1 + j) (by omega) (by omega)) (va_cwS 2 hts gL_law_L_cell rfl rfl rfl (by decide +kernel) ⟨Nat.le_of_ble_eq_true rfl, Nat.le_of_ble_eq_true rfl⟩) (zPreX hG hbn hXn) rfl rfl hl.1 rfl (lv_room (Nat.le_of_ble_eq_true rfl)) dL_law_103 ⟨Nat.le_of_ble_eq_true rfl, Nat.le_of_ble_eq_true rfl⟩) ?_
  refine lv_sipush (v := nI 7919) hx hb dL_law_106 (by decide) ?_
  refine lv_iload hx hb dL_law_109 (lv_at hl 8 rfl) ?_
  refine lv_imul hx hb dL_law_111 ?_
  refine lv_topi (nm_r (e' := nI (7919 * j)) (pk_mul _ _) ?_)
  refine lv_ixor hx hb dL_law_112 ?_
  refine zwrB (wc := ((wL G q σ) ++ wX G ad σ T o n f x len)) (va_runS (As := [.ref (ad 0 0), .ref (q 0), .ref (q 1), .ref (q 2), .ref (q 3), .int ((scl xs L (1 + j)) ^^^ (nI (7919 * j)))]) (rest := []) ⟨hx, hb, hml, hown, hts⟩ (kL_acts l G q ad σ T o n f x len ((scl xs L (1 + j)) ^^^ (nI (7919 * j))) hJ (by omega) (zD_any hD)) (va_cwS 6 hts gL_law_L_acts rfl rfl rfl (by decide +kernel) ⟨Nat.le_of_ble_eq_true rfl, Nat.le_of_ble_eq_true rfl⟩) (zPre hG hP) rfl rfl hl.1 rfl (lv_room (Nat.le_of_ble_eq_true rfl)) dL_law_113 ⟨Nat.le_of_ble_eq_true rfl, Nat.le_of_ble_eq_true rfl⟩) hD hS (fun H locs hB _ hS => ?_)
  obtain ⟨σ', T', o', n', f', hJ', hP⟩ := hB
  have hD : va_D (lA s) ((wL G q σ') ++ wX G ad σ' T' o' n' f' x len) := zD_map (wLX_map ..) hD
  obtain ⟨hO', hC', ho', hn', hM'⟩ := id hJ'
  refine lv_if_eq (tgt := 136) hx hb dL_law_116 (by decide) (fun h116 => ?_) (fun h116 => ?_)
  · skip
    have h116 : 1 = 0 := (z_eq0 (by omega)).mp h116
    exfalso; omega
  · skip
    have h116 : ¬ (1 = 0) := fun q => h116 ((z_eq0 (by omega)).mpr q)
    have h116 : 0 < 1 := Nat.pos_of_ne_zero h116
    refine lv_aload_n hx hb dL_law_119 rfl (lv_at hl 1 rfl) ?_
    refine lv_aload_n hx hb dL_law_120 rfl (lv_at hl 2 rfl) ?_
    refine lv_aload_n hx hb dL_law_121 rfl (lv_at hl 3 rfl) ?_
    refine lv_aload hx hb dL_law_122 (lv_at hl 4 rfl) ?_
    refine lv_aload hx hb dL_law_124 (lv_at hl 5 rfl) ?_
    refine zwrW (G := G) (wc := ((wL G q σ') ++ wX G ad σ' T' o' n' f' x len)) (wc' := ((wL G q σ') ++ wX G ad σ' T' o' n' (fun k => nI (blk σ' (nE σ') k)) x len)) (va_runS (As := [.ref (ad 0 0), .ref (q 0), .ref (q 1), .ref (q 2), .ref (q 3)]) (rest := []) ⟨hx, hb, hml, hown, hts⟩ (kL_isSo l G q ad σ' T' o' n' f' x len (hO') (hM') (hC') (ho') (hn') (zD_any hD)) (va_cwS 5 hts gL_law_L_isSo rfl rfl rfl (by decide +kernel) ⟨Nat.le_of_ble_eq_true rfl, Nat.le_of_ble_eq_true rfl⟩) (zPre hG (hP)) rfl rfl hl.1 rfl (lv_room (Nat.le_of_ble_eq_true rfl)) dL_law_126 ⟨Nat.le_of_ble_eq_true rfl, Nat.le_of_ble_eq_true rfl⟩) hP hD hS (wLX_map ..) (fun H locs hP hD hS => ?_)
    refine lv_if_eq (tgt := 136) hx hb dL_law_129 (by decide) (fun h129 => ?_) (fun h129 => ?_)
    · skip
      have h129 : 1 = 0 := (z_eq0 (by omega)).mp h129
      exfalso; omega
    · skip
      have h129 : ¬ (1 = 0) := fun q => h129 ((z_eq0 (by omega)).mpr q)
      have h129 : 0 < 1 := Nat.pos_of_ne_zero h129
      refine lv_iconst (v := nI 1) hx hb dL_law_132 (by decide) ?_
      refine lv_goto (tgt := 137) hx hb dL_law_133 (by decide) ?_
      refine lv_istore (lv' := [(6, .int (nI 1)), (0, .ref b), (1, .ref (ad 0 0)), (2, .ref (q 0)), (3, .ref (q 1)), (4, .ref (q 2)), (5, .ref (q 3)), (7, .int (nI tn)), (8, .int (nI j))]) hx hb dL_law_137 hl (by decide) rfl (fun ls hl => ?_)
      refine lv_iinc (v := nI (j + 1)) (lv' := [(8, .int (nI (j + 1))), (6, .int (nI 1)), (0, .ref b), (1, .ref (ad 0 0)), (2, .ref (q 0)), (3, .ref (q 1)), (4, .ref (q 2)), (5, .ref (q 3)), (7, .int (nI tn))]) hx hb dL_law_139 hl (k := 8) rfl (zinc1 _) (by decide) rfl (fun ls hl => ?_)
      refine lv_goto (tgt := 79) hx hb dL_law_142 (by decide) ?_
      exact kk _ _ _ _ _ _ _ _ hJ' hP hD hS (lv_sub hl [2, 3, 4, 5, 6, 7, 1, 8, 0] rfl)
set_option maxHeartbeats 8000000 in
set_option maxRecDepth 100000 in
theorem law_loop {p : Program} {l : Launch} {e : Env} {s : State} {mi : MethodId} {below : List Frame} {meth : Method} {c : Code} {Q : State → Prop} {b L : Nat} {xs : Nat → Int32} {G : zG} {q : Nat → Nat} {ad : Nat → Nat → Nat} {x : Nat → Nat} {len tn : Nat} (C0 : LC p s mi c b L xs) (hG : zK G s) (hend : ∀ (H : Heap) (ls : Array Slot), W p l e room_1 s mi #[Value.ref b] below meth c H [] 600000 7302249 Q (F0 mi 171 ls [])) (htn : tn ≤ 62) :
    ∀ (d j : Nat), tn < j + d → j ≤ tn → ∀ (σ : Nat → Nat) (T : Nat → Nat → Nat) (o n : Nat) (f : Nat → Int32) (H : Heap) (locs : List Loc) (ls : Array Slot), Jv (j + 1) σ o n → va_P G.1 vwCl (wL G q σ ++ wX G ad σ T o n f x len) H → va_D (lA s) (wL G q σ ++ wX G ad σ T o n f x len) → va_S (lA s) s.heap H locs → lv_has ls 9 [(0, .ref b), (1, .ref (ad 0 0)), (2, .ref (q 0)), (3, .ref (q 1)), (4, .ref (q 2)), (5, .ref (q 3)), (6, .int (nI 1)), (7, .int (nI tn)), (8, .int (nI j))] → W p l e room_1 s mi #[Value.ref b] below meth c H locs 600000 7302249 Q (F0 mi 79 ls []) := by
  obtain ⟨hx, hb, hml, hown, hts, hX, hbl, hL⟩ := id C0
  intro d
  induction d with
  | zero => intro j h1 h2; omega
  | succ d ih =>
    intro j h1 h2 σ T o n f H locs ls hJ hP hD hS hl
    refine lv_iload hx hb dL_law_79 (lv_at hl 8 rfl) ?_
    refine lv_iload hx hb dL_law_81 (lv_at hl 7 rfl) ?_
    refine lv_icmp_ge (tgt := 145) hx hb dL_law_83 (by decide) (fun h83 => ?_) (fun h83 => ?_)
    · exact law_fin C0 hG hend hJ hP hD hS hl
    · have h83 : ¬ (tn ≤ j) := fun z => h83 ((nI_leI (by omega) (by omega)).mpr z)
      refine lv_iload hx hb dL_law_86 (lv_at hl 6 rfl) ?_
      refine lv_if_eq (tgt := 145) hx hb dL_law_88 (by decide) (fun h88 => absurd h88 (by decide)) (fun h88 => ?_)
      exact law_turn C0 hG hend hJ (by omega) (by omega) (fun σ T o n f H locs ls hJ hP hD hS hl => ih (j + 1) (by omega) (by omega) σ T o n f H locs ls hJ hP hD hS hl) hP hD hS hl
set_option maxHeartbeats 8000000 in
set_option maxRecDepth 100000 in
theorem law_go {p : Program} {l : Launch} {e : Env} {s : State} {mi : MethodId} {below : List Frame} {meth : Method} {c : Code} {Q : State → Prop} {b L : Nat} {xs : Nat → Int32} {G : zG} {q : Nat → Nat} {ad : Nat → Nat → Nat}  {H : Heap} {locs : List Loc} {ls : Array Slot}  (C0 : LC p s mi c b L xs) (hG : zK G s) (hend : ∀ (H : Heap) (ls : Array Slot), W p l e room_1 s mi #[Value.ref b] below meth c H [] 600000 7302249 Q (F0 mi 171 ls []))  (hP : va_P G.1 vwCl ((wL G q (bgn 3 2 1 20)) ++ wX G ad (bgn 3 2 1 20) (fun _ => bgn 3 2 1 20) 0 0 (fun _ => 0) (fun _ => 0) 0) H) (hD : va_D (lA s) ((wL G q (bgn 3 2 1 20)) ++ wX G ad (bgn 3 2 1 20) (fun _ => bgn 3 2 1 20) 0 0 (fun _ => 0) (fun _ => 0) 0)) (hS : va_S (lA s) s.heap H locs) (hl : lv_has ls 9 [(0, .ref b), (1, .ref (ad 0 0)), (2, .ref (q 0)), (3, .ref (q 1)), (4, .ref (q 2)), (5, .ref (q 3))]) : W p l e room_1 s mi #[Value.ref b] below meth c H locs 600000 7302249 Q (F0 mi 49 ls []) := by
  obtain ⟨hx, hb, hml, hown, hts, hX, hbl, hL⟩ := id C0
  have hO : Ok 1 (bgn 3 2 1 20) := bgn_ok1
  have hM : Sml (bgn 3 2 1 20) := ⟨(show 3 ≤ 3 by omega), (show 2 ≤ 2 by omega)⟩
  have hC := cln_bgn hO
  refine lv_aload_n hx hb dL_law_49 rfl (lv_at hl 1 rfl) ?_
  refine lv_aload_n hx hb dL_law_50 rfl (lv_at hl 2 rfl) ?_
  refine lv_aload_n hx hb dL_law_51 rfl (lv_at hl 3 rfl) ?_
  refine lv_aload hx hb dL_law_52 (lv_at hl 4 rfl) ?_
  refine lv_aload hx hb dL_law_54 (lv_at hl 5 rfl) ?_
  refine zwrW (G := G) (wc := ((wL G q (bgn 3 2 1 20)) ++ wX G ad (bgn 3 2 1 20) (fun _ => bgn 3 2 1 20) 0 0 (fun _ => 0) (fun _ => 0) 0)) (wc' := ((wL G q (bgn 3 2 1 20)) ++ wX G ad (bgn 3 2 1 20) (fun _ => bgn 3 2 1 20) 0 0 (fun k => nI (blk (bgn 3 2 1 20) (nE (bgn 3 2 1 20)) k)) (fun _ => 0) 0)) (va_runS (As := [.ref (ad 0 0), .ref (q 0), .ref (q 1), .ref (q 2), .ref (q 3)]) (rest := []) ⟨hx, hb, hml, hown, hts⟩ (kL_isSo l G q ad (bgn 3 2 1 20) (fun _ => bgn 3 2 1 20) 0 0 (fun _ => 0) (fun _ => 0) 0 (hO) (hM) (hC) (by omega) (by omega) (zD_any hD)) (va_cwS 5 hts gL_law_L_isSo rfl rfl rfl (by decide +kernel) ⟨Nat.le_of_ble_eq_true rfl, Nat.le_of_ble_eq_true rfl⟩) (zPre hG (hP)) rfl rfl hl.1 rfl (lv_room (Nat.le_of_ble_eq_true rfl)) dL_law_56 ⟨Nat.le_of_ble_eq_true rfl, Nat.le_of_ble_eq_true rfl⟩) hP hD hS (wLX_map ..) (fun H locs hP hD hS => ?_)
  refine lv_istore (lv' := [(6, .int (nI 1)), (0, .ref b), (1, .ref (ad 0 0)), (2, .ref (q 0)), (3, .ref (q 1)), (4, .ref (q 2)), (5, .ref (q 3))]) hx hb dL_law_59 hl (by decide) rfl (fun ls hl => ?_)
  refine lv_bipush (v := nI 8) hx hb dL_law_61 (by decide) ?_
  refine lv_aload_n hx hb dL_law_63 rfl (lv_at hl 1 rfl) ?_
  refine lv_iconst (v := nI 0) hx hb dL_law_64 (by decide) ?_
  have hXn : va_X b L xs s H := hX.kept (hS.2.1 b hbl (Nat.not_le.mpr hbl))
  have hbn : b < H.size := Nat.lt_of_lt_of_le hbl hS.1
  refine zrd (v := .int (scl xs L 0)) (va_runS (As := [.ref b, .int (nI 0)]) (rest := [.int (nI 8)]) ⟨hx, hb, hml, hown, hts⟩ (kL_cell l G b L xs 0 (by omega) (by omega)) (va_cwS 2 hts gL_law_L_cell rfl rfl rfl (by decide +kernel) ⟨Nat.le_of_ble_eq_true rfl, Nat.le_of_ble_eq_true rfl⟩) (zPreX hG hbn hXn) rfl rfl hl.1 rfl (lv_room (Nat.le_of_ble_eq_true rfl)) dL_law_65 ⟨Nat.le_of_ble_eq_true rfl, Nat.le_of_ble_eq_true rfl⟩) ?_
  refine lv_bipush (v := nI 55) hx hb dL_law_68 (by decide) ?_
  obtain ⟨tl, htl⟩ : ∃ tl, tl = lowN (scl xs L 0) 55 := ⟨_, rfl⟩
  have htl5 : tl < 55 := by rw [htl]; exact Nat.mod_lt _ (by omega)
  refine zrdS (As := [.int (scl xs L 0), .int (nI 55)]) ⟨hx, hb, hml, hown, hts⟩ (kL_low l G  (scl xs L 0) 55 (by omega) (by omega)) (va_cwS 2 hts gL_law_L_low rfl rfl rfl (by decide +kernel) ⟨Nat.le_of_ble_eq_true rfl, Nat.le_of_ble_eq_true rfl⟩) hG (trivial) rfl rfl hl.1 dL_law_70 (Nat.le_of_ble_eq_true rfl) ⟨Nat.le_of_ble_eq_true rfl, Nat.le_of_ble_eq_true rfl⟩ ?_
  refine lv_topi (nm_r (e' := (nI tl)) (by rw [htl]) ?_)
  refine lv_iadd hx hb dL_law_73 ?_
  refine lv_topi (nm_r (e' := nI (8 + tl)) (nI_add _ _) ?_)
  refine lv_istore (lv' := [(7, .int (nI (8 + tl))), (6, .int (nI 1)), (0, .ref b), (1, .ref (ad 0 0)), (2, .ref (q 0)), (3, .ref (q 1)), (4, .ref (q 2)), (5, .ref (q 3))]) hx hb dL_law_74 hl (by decide) rfl (fun ls hl => ?_)
  refine lv_iconst (v := nI 0) hx hb dL_law_76 (by decide) ?_
  refine lv_istore (lv' := [(8, .int (nI 0)), (7, .int (nI (8 + tl))), (6, .int (nI 1)), (0, .ref b), (1, .ref (ad 0 0)), (2, .ref (q 0)), (3, .ref (q 1)), (4, .ref (q 2)), (5, .ref (q 3))]) hx hb dL_law_77 hl (by decide) rfl (fun ls hl => ?_)
  have htn : 8 + tl ≤ 62 := by omega
  exact law_loop C0 hG hend htn (8 + tl + 1) 0 (by omega) (by omega) _ _ _ _ _ _ _ _ ⟨hO, hC, by omega, by omega, hM⟩ hP hD hS (lv_sub hl [3, 4, 5, 6, 7, 8, 2, 1, 0] rfl)
set_option maxHeartbeats 8000000 in
set_option maxRecDepth 100000 in
theorem law_start {p : Program} {l : Launch} {e : Env} {s : State} {mi : MethodId} {below : List Frame} {meth : Method} {c : Code} {Q : State → Prop} {b L : Nat} {xs : Nat → Int32} (C0 : LC p s mi c b L xs) (htb : ∀ w ∈ lw_tbl, w.before #[Value.ref b] s = true) (hend : ∀ (H : Heap) (ls : Array Slot), W p l e room_1 s mi #[Value.ref b] below meth c H [] 600000 7302249 Q (F0 mi 171 ls [])) :
    W p l e room_1 s mi #[Value.ref b] below meth c s.heap [] 0 0 Q (entryFrame mi ([Value.ref b] : List Value).toArray 9) := by
  obtain ⟨hx, hb, hml, hown, hts, hX, hbl, hL⟩ := id C0
  obtain ⟨G, hG, hGO⟩ := law_G htb
  have hA : ∀ q : Nat, s.heap.size ≤ q → lA s q := fun _ h => h
  have hS : va_S (lA s) s.heap s.heap [] := va_S.rf
  have hP : va_P G.1 vwCl [] s.heap := fun k q h => by simp at h
  have hD : va_D (lA s) [] := ⟨fun i j p q h => by simp at h, fun k q h => by simp at h⟩
  have hl := lv_entry ([.ref b]) (n := 9) (Nat.le_of_ble_eq_true rfl)
  rw [lg_entry_eq]
  generalize (lg_sl ([.ref b]) ++ List.replicate (9 - (lg_sl ([.ref b])).length) Slot.unset).toArray = ls at hl ⊢
  have hl : lv_has ls 9 [(0, .ref b)] := hl
  refine va_new (ci := 4) (fs := [.null, .null, .null, .null]) (C := RX4) (T := TX4) (N := 4) hx hb htb inX4 tyX4 tyX4_ok hown (hts (.classLink RL 50 RX4) (List.mem_of_getElem? (i := 0) rfl)) (hts (.instantiable RX4 4) (List.mem_of_getElem? (i := 1) rfl)) (hts (.initialized RX4) (List.mem_of_getElem? (i := 2) rfl)) hG.1 hP hD hS hA rfl (fun j hj => by rcases (show j = 0 ∨ j = 1 ∨ j = 2 ∨ j = 3 by omega) with rfl | rfl | rfl | rfl <;> rfl) (Nat.le_of_ble_eq_true rfl) (Nat.le_of_ble_eq_true rfl) dL_law_0 (fun q4 H hP hD hS => ?_)
  have hP : va_P G.1 vwCl [(q4, .inr (4, [.null, .null, .null, .null]))] H := hP
  have hD : va_D (lA s) [(q4, .inr (4, [.null, .null, .null, .null]))] := hD
  refine lv_dup hx hb dL_law_3 rfl ?_
  refine zwrC (G := G) (w1 := []) (va_runI (As := []) (rest := [.ref q4]) ⟨hx, hb, hml, hown, hts⟩ (kX4_init l G q4 H.size) (cwI 0 hts gL_law_X4_init rfl rfl rfl (hts (.initialized RX4) (List.mem_of_getElem? (i := 2) rfl)) (hts (.methodLink RL 123 yX4_init) (List.mem_of_getElem? (i := 5) rfl)) (hts (.instanceMethod yX4_init) (List.mem_of_getElem? (i := 6) rfl)) rfl (by decide +kernel) ⟨Nat.le_of_ble_eq_true rfl, Nat.le_of_ble_eq_true rfl⟩) (zPreO hG hGO ⟨rfl, hP⟩) rfl rfl hl.1 rfl (lv_room (Nat.le_of_ble_eq_true rfl)) dL_law_4 ⟨Nat.le_of_ble_eq_true rfl, Nat.le_of_ble_eq_true rfl⟩) hP hD hS hA (fun H locs hB hw hS => ?_)
  obtain ⟨ad, had, hPn, hDn⟩ := hB
  subst had
  obtain ⟨hP, hD⟩ := hw _ hPn hDn
  have hP : va_P G.1 vwCl (wX G ad (bgn 3 2 1 20) (fun _ => bgn 3 2 1 20) 0 0 (fun _ => 0) (fun _ => 0) 0) H := hP
  have hD : va_D (lA s) (wX G ad (bgn 3 2 1 20) (fun _ => bgn 3 2 1 20) 0 0 (fun _ => 0) (fun _ => 0) 0) := hD
  refine lv_astore_n (lv' := [(1, .ref (ad 0 0)), (0, .ref b)]) hx hb dL_law_7 rfl hl (by decide) rfl (fun ls hl => ?_)
  refine lv_iconst (v := nI 5) hx hb dL_law_8 (by decide +kernel) ?_
  refine va_newa (atype := .int) (a0 := (5, .inl (fun _ => 0))) hx hb (hts (.arrayClass .int) (List.mem_of_getElem? (i := 3) rfl)) rfl hG.1 hP hD hS hA (fun cA => rfl) (nI_pos (n := 5) (by omega)) (nI_clamp (n := 5) (by omega)) (Nat.le_of_ble_eq_true rfl) (Nat.le_of_ble_eq_true rfl) (Nat.le_of_ble_eq_true rfl) dL_law_9 (fun qg cA H hK1 hP hD hS => ?_)
  obtain rfl : cA = G.2.1 := zcA hK1 0 rfl
  clear hK1
  refine lv_astore_n (lv' := [(2, .ref qg), (1, .ref (ad 0 0)), (0, .ref b)]) hx hb dL_law_11 rfl hl (by decide) rfl (fun ls hl => ?_)
  refine lv_bipush (v := nI 18) hx hb dL_law_12 (by decide +kernel) ?_
  refine va_newa (atype := .int) (a0 := (18, .inl (fun _ => 0))) hx hb (hts (.arrayClass .int) (List.mem_of_getElem? (i := 3) rfl)) rfl hG.1 hP hD hS hA (fun cA => rfl) (nI_pos (n := 18) (by omega)) (nI_clamp (n := 18) (by omega)) (Nat.le_of_ble_eq_true rfl) (Nat.le_of_ble_eq_true rfl) (Nat.le_of_ble_eq_true rfl) dL_law_14 (fun qr cA H hK1 hP hD hS => ?_)
  obtain rfl : cA = G.2.1 := zcA hK1 0 rfl
  clear hK1
  refine lv_astore_n (lv' := [(3, .ref qr), (2, .ref qg), (1, .ref (ad 0 0)), (0, .ref b)]) hx hb dL_law_16 rfl hl (by decide) rfl (fun ls hl => ?_)
  refine lv_bipush (v := nI 24) hx hb dL_law_17 (by decide +kernel) ?_
  refine va_newa (atype := .long) (a0 := (24, .inr (.inl (fun _ => 0)))) hx hb (hts (.arrayClass .long) (List.mem_of_getElem? (i := 4) rfl)) rfl hG.1 hP hD hS hA (fun cA => rfl) (nI_pos (n := 24) (by omega)) (nI_clamp (n := 24) (by omega)) (Nat.le_of_ble_eq_true rfl) (Nat.le_of_ble_eq_true rfl) (Nat.le_of_ble_eq_true rfl) dL_law_19 (fun qa cA H hK1 hP hD hS => ?_)
  obtain rfl : cA = G.2.2.2.2 := zcA hK1 3 rfl
  clear hK1
  refine lv_astore (lv' := [(4, .ref qa), (3, .ref qr), (2, .ref qg), (1, .ref (ad 0 0)), (0, .ref b)]) hx hb dL_law_21 hl (by decide) rfl (fun ls hl => ?_)
  refine lv_bipush (v := nI 6) hx hb dL_law_23 (by decide +kernel) ?_
  refine va_newa (atype := .long) (a0 := (6, .inr (.inl (fun _ => 0)))) hx hb (hts (.arrayClass .long) (List.mem_of_getElem? (i := 4) rfl)) rfl hG.1 hP hD hS hA (fun cA => rfl) (nI_pos (n := 6) (by omega)) (nI_clamp (n := 6) (by omega)) (Nat.le_of_ble_eq_true rfl) (Nat.le_of_ble_eq_true rfl) (Nat.le_of_ble_eq_true rfl) dL_law_25 (fun qb cA H hK1 hP hD hS => ?_)
  obtain rfl : cA = G.2.2.2.2 := zcA hK1 3 rfl
  clear hK1
  refine lv_astore (lv' := [(5, .ref qb), (4, .ref qa), (3, .ref qr), (2, .ref qg), (1, .ref (ad 0 0)), (0, .ref b)]) hx hb dL_law_27 hl (by decide) rfl (fun ls hl => ?_)
  obtain ⟨q, hq0, hq1, hq2, hq3⟩ : ∃ q : Nat → Nat, q 0 = qg ∧ q 1 = qr ∧ q 2 = qa ∧ q 3 = qb := ⟨fun i => if i = 0 then qg else if i = 1 then qr else if i = 2 then qa else qb, rfl, rfl, rfl, rfl⟩
  subst hq0 hq1 hq2 hq3
  simp only [List.append_assoc, List.singleton_append] at hP hD
  have hP : va_P G.1 vwCl (wL0 G q (fun _ => 0) (fun _ => 0) (fun _ => 0) (fun _ => 0) ++ wX G ad (bgn 3 2 1 20) (fun _ => bgn 3 2 1 20) 0 0 (fun _ => 0) (fun _ => 0) 0) H := zP_comm hP
  have hD : va_D (lA s) (wL0 G q (fun _ => 0) (fun _ => 0) (fun _ => 0) (fun _ => 0) ++ wX G ad (bgn 3 2 1 20) (fun _ => bgn 3 2 1 20) 0 0 (fun _ => 0) (fun _ => 0) 0) := zD_comm hD
  refine W.widen (k := 600000) (n := 7302249) (Nat.le_of_ble_eq_true rfl) (Nat.le_of_ble_eq_true rfl) ?_
  refine lv_aload_n hx hb dL_law_29 rfl (lv_at hl 3 rfl) ?_
  refine lv_iconst (v := nI 2) hx hb dL_law_30 (by decide) ?_
  refine lv_iconst (v := nI 1) hx hb dL_law_31 (by decide) ?_
  refine va_iast hx hb hG.1 hP hD hS 0 0 rfl rfl (vp_in_nI (n := 2) (N := 5) (by omega) (by omega)) dL_law_32 (fun H locs hP hD hS => ?_)
  rw [nI_clamp (show 2 < 2 ^ 31 by omega)] at hP hD
  have hP : va_P G.1 vwCl ((wL0 G q (upd (fun _ => 0) 2 (nI 1)) (fun _ => 0) (fun _ => 0) (fun _ => 0)) ++ wX G ad (bgn 3 2 1 20) (fun _ => bgn 3 2 1 20) 0 0 (fun _ => 0) (fun _ => 0) 0) H := hP
  have hD : va_D (lA s) ((wL0 G q (upd (fun _ => 0) 2 (nI 1)) (fun _ => 0) (fun _ => 0) (fun _ => 0)) ++ wX G ad (bgn 3 2 1 20) (fun _ => bgn 3 2 1 20) 0 0 (fun _ => 0) (fun _ => 0) 0) := hD
  refine lv_aload_n hx hb dL_law_33 rfl (lv_at hl 3 rfl) ?_
  refine lv_iconst (v := nI 3) hx hb dL_law_34 (by decide) ?_
  refine lv_bipush (v := nI 20) hx hb dL_law_35 (by decide) ?_
  refine va_iast hx hb hG.1 hP hD hS 0 0 rfl rfl (vp_in_nI (n := 3) (N := 5) (by omega) (by omega)) dL_law_37 (fun H locs hP hD hS => ?_)
  rw [nI_clamp (show 3 < 2 ^ 31 by omega)] at hP hD
  have hP : va_P G.1 vwCl ((wL0 G q (upd (upd (fun _ => 0) 2 (nI 1)) 3 (nI 20)) (fun _ => 0) (fun _ => 0) (fun _ => 0)) ++ wX G ad (bgn 3 2 1 20) (fun _ => bgn 3 2 1 20) 0 0 (fun _ => 0) (fun _ => 0) 0) H := hP
  have hD : va_D (lA s) ((wL0 G q (upd (upd (fun _ => 0) 2 (nI 1)) 3 (nI 20)) (fun _ => 0) (fun _ => 0) (fun _ => 0)) ++ wX G ad (bgn 3 2 1 20) (fun _ => bgn 3 2 1 20) 0 0 (fun _ => 0) (fun _ => 0) 0) := hD
  refine lv_aload_n hx hb dL_law_38 rfl (lv_at hl 3 rfl) ?_
  refine lv_aload_n hx hb dL_law_39 rfl (lv_at hl 2 rfl) ?_
  refine lv_aload hx hb dL_law_40 (lv_at hl 1 rfl) ?_
  refine lv_aload hx hb dL_law_42 (lv_at hl 0 rfl) ?_
  refine lv_iconst (v := nI 3) hx hb dL_law_44 (by decide) ?_
  refine lv_iconst (v := nI 2) hx hb dL_law_45 (by decide) ?_
  refine zwrLv (G := G) (wc := (wL0 G q (upd (upd (fun _ => 0) 2 (nI 1)) 3 (nI 20)) (fun _ => 0) (fun _ => 0) (fun _ => 0))) (wc' := (wL G q (bgn 3 2 1 20))) (w2 := wX G ad (bgn 3 2 1 20) (fun _ => bgn 3 2 1 20) 0 0 (fun _ => 0) (fun _ => 0) 0) (va_runS (As := [.ref (q 0), .ref (q 1), .ref (q 2), .ref (q 3), .int (nI 3), .int (nI 2)]) (rest := []) ⟨hx, hb, hml, hown, hts⟩ (kL_begins l G q (upd (upd (fun _ => 0) 2 (nI 1)) 3 (nI 20)) (fun _ => 0) (fun _ => 0) (fun _ => 0) 1 20 3 2 rfl rfl (zD_any (zD_l hD))) (va_cwS 6 hts gL_law_L_begins rfl rfl rfl (by decide +kernel) ⟨Nat.le_of_ble_eq_true rfl, Nat.le_of_ble_eq_true rfl⟩) (zPre hG (zP_l hP)) rfl rfl hl.1 rfl (lv_room (Nat.le_of_ble_eq_true rfl)) dL_law_46 ⟨Nat.le_of_ble_eq_true rfl, Nat.le_of_ble_eq_true rfl⟩) hP hD hS rfl (fun H locs hP hD hS => ?_)
  exact law_go C0 hG hend hP hD hS (lv_sub hl [5, 4, 3, 2, 1, 0] rfl)
