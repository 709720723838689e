theorem bgn_ok1 : Ok 1 (bgn 3 2 1 20) := by
  refine ⟨by decide +kernel, by decide +kernel, by decide +kernel, by decide +kernel, fun e he => ?_, fun k j hk hj => ?_, fun k j hk hj => ?_, fun k hk => ?_, fun k hk => ?_, fun k hk => ?_, by omega⟩
  · unfold bgn
    rw [if_neg (by omega), if_neg (by omega), if_neg (by omega), if_neg (by omega), if_pos (by omega)]
    omega
  · unfold bgn
    rw [if_neg (by omega), if_neg (by omega), if_neg (by omega), if_neg (by omega), if_neg (by omega), if_pos (by omega)]
    omega
  · unfold bgn
    rw [if_neg (by omega), if_neg (by omega), if_neg (by omega), if_neg (by omega), if_neg (by omega), if_neg (by omega), if_pos (by omega)]
    omega
  · unfold bgn
    rw [if_neg (by omega), if_neg (by omega), if_neg (by omega), if_neg (by omega), if_neg (by omega), if_neg (by omega), if_neg (by omega), if_pos (by omega)]
    omega
  · unfold bgn
    rw [if_neg (by omega), if_neg (by omega), if_neg (by omega), if_neg (by omega), if_neg (by omega), if_neg (by omega), if_neg (by omega), if_pos (by omega)]
    omega
  · unfold bgn
    rw [if_neg (by omega), if_neg (by omega), if_neg (by omega), if_neg (by omega), if_neg (by omega), if_neg (by omega), if_neg (by omega), if_neg (by omega)]
    omega
set_option maxHeartbeats 4000000 in
set_option maxRecDepth 20000 in
/-- the law's loop: j calls are done -/
theorem law_loop {p : Program} {l : Launch} {e : Env} {s : State} {mi : MethodId} {below : List Frame} {meth : Method} {c : Code} {Q : State → Prop} {b L : Nat} {xs : Nat → Int32} {G : zG} {ad : Nat → Nat → Nat} {m : Nat → Nat} (C0 : LC p s mi c b L xs) (hG : zK G s) (hend : ∀ (H : Heap) (ls : Array Slot), W p l e room_1 s mi #[Value.ref b] below meth c H [] 600000 7302250 Q (F0 mi 872 ls [])) :
    ∀ (d j : Nat), L < 5 * j + 5 * d → 5 * j ≤ L + 5 → ∀ (σ : Nat → Nat) (T : Nat → Nat → Nat) (o n : Nat) (f : Nat → Int32) (x : Nat → Nat) (len : Nat) (V : Nat → Nat → Nat) (ζ : Nat → Nat) (B : Nat → Int32) (H : Heap) (locs : List Loc) (ls : Array Slot), Iv (j + 1) σ T o n V x len → va_P G.1 vwCl (wX G ad σ T o n f x len ++ wM G m σ V ζ n x len B) H → va_D (lA s) (wX G ad σ T o n f x len ++ wM G m σ V ζ n x len B) → va_S (lA s) s.heap H locs → lv_has ls 4 (lL b (5 * j) (ad 0 0) (m 0)) →
      W p l e room_1 s mi #[Value.ref b] below meth c H locs 600000 7302250 Q (F0 mi 18 ls []) := by
  obtain ⟨hx, hb, hml, hown, hts, hX, hbl, hL⟩ := id C0
  intro d
  induction d with
  | zero =>
    intro j hd hj σ T o n f x len V ζ B H locs ls hI hP hD hS hl
    refine lv_iload_n hx hb dL_law_18 rfl (lv_at hl 0 rfl) ?_
    refine lv_aload_n hx hb dL_law_19 rfl (lv_at hl 3 rfl) ?_
    refine va_slen hx hb hX hbl (Nat.not_le.mpr hbl) hS dL_law_20 ?_
    refine lv_iconst (v := nI 5) hx hb dL_law_21 (by decide +kernel) ?_
    refine lv_isub hx hb dL_law_22 ?_
    refine lv_icmp_gt (tgt := 872) hx hb dL_law_23 (by decide) (fun _ => va_forget hS.2.2 (hend _ _)) (fun h => ?_)
    exfalso
    apply h
    show nI L - nI 5 < nI (5 * j)
    rw [Int32.lt_iff_toInt_lt, pk_sub_toInt (by omega) (by omega), nI_toInt (by omega)]
    omega
  | succ d ih =>
    intro j hd hj σ T o n f x len V ζ B H locs ls hI hP hD hS hl
    refine lv_iload_n hx hb dL_law_18 rfl (lv_at hl 0 rfl) ?_
    refine lv_aload_n hx hb dL_law_19 rfl (lv_at hl 3 rfl) ?_
    refine va_slen hx hb hX hbl (Nat.not_le.mpr hbl) hS dL_law_20 ?_
    refine lv_iconst (v := nI 5) hx hb dL_law_21 (by decide +kernel) ?_
    refine lv_isub hx hb dL_law_22 ?_
    refine lv_icmp_gt (tgt := 872) hx hb dL_law_23 (by decide) (fun _ => va_forget hS.2.2 (hend _ _)) (fun h => ?_)
    have h : ¬ nI L - nI 5 < nI (5 * j) := h
    rw [Int32.lt_iff_toInt_lt, pk_sub_toInt (by omega) (by omega), nI_toInt (by omega)] at h
    have hi : 5 * j + 5 ≤ L := by omega
    have hN : j + 1 + 1 < 100000 := by omega
    have K : LK p l e s mi below meth c Q G ad m b (j + 1 + 1) (5 * j) := by
      intro σ T o n f x len V ζ B H locs ls hI hP hD hS hl
      refine lv_iinc (v := nI (5 * j + 5)) (lv' := lL b (5 * j + 5) (ad 0 0) (m 0)) hx hb dL_law_866 hl (k := 0) rfl (zinc5 _) (by decide) rfl (fun ls hl => ?_)
      have hl : lv_has ls 4 (lL b (5 * (j + 1)) (ad 0 0) (m 0)) := by rw [show 5 * (j + 1) = 5 * j + 5 by omega]; exact hl
      refine lv_goto (tgt := 18) hx hb dL_law_869 (by decide) ?_
      exact ih (j + 1) (by omega) (by omega) σ T o n f x len V ζ B H locs ls hI hP hD hS hl
    refine lv_aload_n hx hb dL_law_26 rfl (lv_at hl 3 rfl) ?_
    refine lv_iload_n hx hb dL_law_27 rfl (lv_at hl 0 rfl) ?_
    refine va_sld hx hb hX hbl (Nat.not_le.mpr hbl) hS (nI_in (c := 5 * j) (N := L) (by omega) (by omega)) dL_law_28 ?_
    refine lv_bipush (v := nI 31) hx hb dL_law_29 (by decide +kernel) ?_
    refine lv_iand hx hb dL_law_31 ?_
    refine lv_topi (fun y _ => ?_)
    by_cases hout : y.toInt < 0 ∨ 23 < y.toInt
    · refine lv_tableOut (tgt := 866) hx hb dL_law_32 hout (by decide) ?_
      exact K σ T o n f x len V ζ B H locs ls (hI.keep hN) hP hD hS hl
    · have h1 : ¬ y.toInt < 0 := fun q => hout (Or.inl q)
      have h2 : ¬ 23 < y.toInt := fun q => hout (Or.inr q)
      rcases (show y.toInt = 0 ∨ y.toInt = 1 ∨ y.toInt = 2 ∨ y.toInt = 3 ∨ y.toInt = 4 ∨ y.toInt = 5 ∨ y.toInt = 6 ∨ y.toInt = 7 ∨ y.toInt = 8 ∨ y.toInt = 9 ∨ y.toInt = 10 ∨ y.toInt = 11 ∨ y.toInt = 12 ∨ y.toInt = 13 ∨ y.toInt = 14 ∨ y.toInt = 15 ∨ y.toInt = 16 ∨ y.toInt = 17 ∨ y.toInt = 18 ∨ y.toInt = 19 ∨ y.toInt = 20 ∨ y.toInt = 21 ∨ y.toInt = 22 ∨ y.toInt = 23 by omega) with hy | hy | hy | hy | hy | hy | hy | hy | hy | hy | hy | hy | hy | hy | hy | hy | hy | hy | hy | hy | hy | hy | hy | hy
      · refine lv_tableIn (off := 112) (tgt := 144) hx hb dL_law_32 h1 h2 (by rw [hy]; rfl) (by decide) ?_
        exact lc_grid C0 hG hI hN hi hP hD hS hl K
      · refine lv_tableIn (off := 145) (tgt := 177) hx hb dL_law_32 h1 h2 (by rw [hy]; rfl) (by decide) ?_
        exact lc_set C0 hG hI hN hi hP hD hS hl K
      · refine lv_tableIn (off := 178) (tgt := 210) hx hb dL_law_32 h1 h2 (by rw [hy]; rfl) (by decide) ?_
        exact lc_show C0 hG hI hN hi hP hD hS hl K
      · refine lv_tableIn (off := 231) (tgt := 263) hx hb dL_law_32 h1 h2 (by rw [hy]; rfl) (by decide) ?_
        exact lc_erase C0 hG hI hN hi hP hD hS hl K
      · refine lv_tableIn (off := 274) (tgt := 306) hx hb dL_law_32 h1 h2 (by rw [hy]; rfl) (by decide) ?_
        exact lc_mean C0 hG hI hN hi hP hD hS hl K
      · refine lv_tableIn (off := 317) (tgt := 349) hx hb dL_law_32 h1 h2 (by rw [hy]; rfl) (by decide) ?_
        exact lc_sign C0 hG hI hN hi hP hD hS hl K
      · refine lv_tableIn (off := 360) (tgt := 392) hx hb dL_law_32 h1 h2 (by rw [hy]; rfl) (by decide) ?_
        exact lc_meaning C0 hG hI hN hi hP hD hS hl K
      · refine lv_tableIn (off := 393) (tgt := 425) hx hb dL_law_32 h1 h2 (by rw [hy]; rfl) (by decide) ?_
        exact lc_sheet C0 hG hI hN hi hP hD hS hl K
      · refine lv_tableIn (off := 426) (tgt := 458) hx hb dL_law_32 h1 h2 (by rw [hy]; rfl) (by decide) ?_
        exact lc_count C0 hG hI hN hi hP hD hS hl K
      · refine lv_tableIn (off := 449) (tgt := 481) hx hb dL_law_32 h1 h2 (by rw [hy]; rfl) (by decide) ?_
        exact lc_undo C0 hG hI hN hi hP hD hS hl K
      · refine lv_tableIn (off := 462) (tgt := 494) hx hb dL_law_32 h1 h2 (by rw [hy]; rfl) (by decide) ?_
        exact lc_edge C0 hG hI hN hi hP hD hS hl K
      · refine lv_tableIn (off := 495) (tgt := 527) hx hb dL_law_32 h1 h2 (by rw [hy]; rfl) (by decide) ?_
        exact lc_edgeAt C0 hG hI hN hi hP hD hS hl K
      · refine lv_tableIn (off := 528) (tgt := 560) hx hb dL_law_32 h1 h2 (by rw [hy]; rfl) (by decide) ?_
        exact lc_quarrel C0 hG hI hN hi hP hD hS hl K
      · refine lv_tableIn (off := 571) (tgt := 603) hx hb dL_law_32 h1 h2 (by rw [hy]; rfl) (by decide) ?_
        exact lc_agree C0 hG hI hN hi hP hD hS hl K
      · refine lv_tableIn (off := 594) (tgt := 626) hx hb dL_law_32 h1 h2 (by rw [hy]; rfl) (by decide) ?_
        exact lc_release C0 hG hI hN hi hP hD hS hl K
      · refine lv_tableIn (off := 617) (tgt := 649) hx hb dL_law_32 h1 h2 (by rw [hy]; rfl) (by decide) ?_
        exact lc_settle C0 hG hI hN hi hP hD hS hl K
      · refine lv_tableIn (off := 650) (tgt := 682) hx hb dL_law_32 h1 h2 (by rw [hy]; rfl) (by decide) ?_
        exact lc_ratio C0 hG hI hN hi hP hD hS hl K
      · refine lv_tableIn (off := 673) (tgt := 705) hx hb dL_law_32 h1 h2 (by rw [hy]; rfl) (by decide) ?_
        exact lc_publish C0 hG hI hN hi hP hD hS hl K
      · refine lv_tableIn (off := 696) (tgt := 728) hx hb dL_law_32 h1 h2 (by rw [hy]; rfl) (by decide) ?_
        exact lc_scale C0 hG hI hN hi hP hD hS hl K
      · refine lv_tableIn (off := 729) (tgt := 761) hx hb dL_law_32 h1 h2 (by rw [hy]; rfl) (by decide) ?_
        exact lc_stretched C0 hG hI hN hi hP hD hS hl K
      · refine lv_tableIn (off := 762) (tgt := 794) hx hb dL_law_32 h1 h2 (by rw [hy]; rfl) (by decide) ?_
        exact lc_type C0 hG hI hN hi hP hD hS hl K
      · refine lv_tableIn (off := 785) (tgt := 817) hx hb dL_law_32 h1 h2 (by rw [hy]; rfl) (by decide) ?_
        exact lc_clearText C0 hG hI hN hi hP hD hS hl K
      · refine lv_tableIn (off := 798) (tgt := 830) hx hb dL_law_32 h1 h2 (by rw [hy]; rfl) (by decide) ?_
        exact lc_fault C0 hG hI hN hi hP hD hS hl K
      · refine lv_tableIn (off := 811) (tgt := 843) hx hb dL_law_32 h1 h2 (by rw [hy]; rfl) (by decide) ?_
        exact lc_read C0 hG hI hN hi hP hD hS hl K
set_option maxHeartbeats 4000000 in
set_option maxRecDepth 20000 in
/-- the law from its entry -/
theorem law_start {p : Program} {l : Launch} {e : Env} {s : State} {mi : MethodId} {below : List Frame} {meth : Method} {c : Code} {Q : State → Prop} {b L : Nat} {xs : Nat → Int32} (C0 : LC p s mi c b L xs) (htb : ∀ w ∈ lw_tbl, w.before #[Value.ref b] s = true) (hend : ∀ (H : Heap) (ls : Array Slot), W p l e room_1 s mi #[Value.ref b] below meth c H [] 600000 7302250 Q (F0 mi 872 ls [])) :
    W p l e room_1 s mi #[Value.ref b] below meth c s.heap [] 0 0 Q (entryFrame mi ([Value.ref b] : List Value).toArray 4) := by
  obtain ⟨hx, hb, hml, hown, hts, hX, hbl, hL⟩ := id C0
  obtain ⟨G, hG, hGO⟩ := law_G htb
  have hA : ∀ q : Nat, s.heap.size ≤ q → lA s q := fun _ h => h
  have hS : va_S (lA s) s.heap s.heap [] := va_S.rf
  have hP : va_P G.1 vwCl [] s.heap := fun k q h => by simp at h
  have hD : va_D (lA s) [] := ⟨fun i j p q h => by simp at h, fun k q h => by simp at h⟩
  have hl := lv_entry ([.ref b]) (n := 4) (Nat.le_of_ble_eq_true rfl)
  rw [lg_entry_eq]
  generalize (lg_sl ([.ref b]) ++ List.replicate (4 - (lg_sl ([.ref b])).length) Slot.unset).toArray = ls at hl ⊢
  have hl : lv_has ls 4 [(0, .ref b)] := hl
  refine va_new (ci := 4) (fs := [.null, .null, .null, .null]) (C := RX4) (T := TX4) (N := 4) hx hb htb inX4 tyX4 tyX4_ok hown (hts (.classLink RL 7 RX4) (List.mem_of_getElem? (i := 0) (by decide +kernel))) (hts (.instantiable RX4 4) (List.mem_of_getElem? (i := 1) (by decide +kernel))) (hts (.initialized RX4) (List.mem_of_getElem? (i := 2) (by decide +kernel))) hG.1 hP hD hS hA rfl (fun j hj => by rcases (show j = 0 ∨ j = 1 ∨ j = 2 ∨ j = 3 by omega) with rfl | rfl | rfl | rfl <;> rfl) (Nat.le_of_ble_eq_true rfl) (Nat.le_of_ble_eq_true rfl) dL_law_0 (fun q4 H hP hD hS => ?_)
  have hP : va_P G.1 vwCl [(q4, .inr (4, [.null, .null, .null, .null]))] H := hP
  have hD : va_D (lA s) [(q4, .inr (4, [.null, .null, .null, .null]))] := hD
  refine lv_dup hx hb dL_law_3 rfl ?_
  refine zwrC (G := G) (w1 := []) (va_runI (As := []) (rest := [.ref q4]) ⟨hx, hb, hml, hown, hts⟩ (kX4_init l G q4 H.size) (cwI 0 hts gL_law_X4_init rfl rfl rfl (hts (.initialized RX4) (List.mem_of_getElem? (i := 2) (by decide +kernel))) (hts (.methodLink RL 9 yX4_init) (List.mem_of_getElem? (i := 6) (by decide +kernel))) (hts (.instanceMethod yX4_init) (List.mem_of_getElem? (i := 7) (by decide +kernel))) rfl (by decide +kernel) ⟨Nat.le_of_ble_eq_true rfl, Nat.le_of_ble_eq_true rfl⟩) (zPreO hG hGO ⟨rfl, hP⟩) rfl rfl hl.1 rfl (lv_room (Nat.le_of_ble_eq_true rfl)) dL_law_4 ⟨Nat.le_of_ble_eq_true rfl, Nat.le_of_ble_eq_true rfl⟩) hP hD hS hA (fun H locs hB hw hS => ?_)
  obtain ⟨ad, had, hPn, hDn⟩ := hB
  subst had
  obtain ⟨hP, hD⟩ := hw _ hPn hDn
  have hP : va_P G.1 vwCl (wX G ad (bgn 3 2 1 20) (fun _ => bgn 3 2 1 20) 0 0 (fun _ => 0) (fun _ => 0) 0) H := hP
  have hD : va_D (lA s) (wX G ad (bgn 3 2 1 20) (fun _ => bgn 3 2 1 20) 0 0 (fun _ => 0) (fun _ => 0) 0) := hD
  refine lv_astore_n (lv' := [(1, .ref (ad 0 0)), (0, .ref b)]) hx hb dL_law_7 rfl hl (by decide) rfl (fun ls hl => ?_)
  refine va_new (ci := 5) (fs := [.null, .null, .null, .int (nI 0), .null, .int (nI 0), .null]) (C := RX5) (T := TX5) (N := 7) hx hb htb inX5 tyX5 tyX5_ok hown (hts (.classLink RL 10 RX5) (List.mem_of_getElem? (i := 3) (by decide +kernel))) (hts (.instantiable RX5 7) (List.mem_of_getElem? (i := 4) (by decide +kernel))) (hts (.initialized RX5) (List.mem_of_getElem? (i := 5) (by decide +kernel))) hG.1 hP hD hS hA rfl (fun j hj => by rcases (show j = 0 ∨ j = 1 ∨ j = 2 ∨ j = 3 ∨ j = 4 ∨ j = 5 ∨ j = 6 by omega) with rfl | rfl | rfl | rfl | rfl | rfl | rfl <;> rfl) (Nat.le_of_ble_eq_true rfl) (Nat.le_of_ble_eq_true rfl) dL_law_8 (fun q5 H hP hD hS => ?_)
  refine lv_dup hx hb dL_law_11 rfl ?_
  refine zwrC (G := G) (w1 := wX G ad (bgn 3 2 1 20) (fun _ => bgn 3 2 1 20) 0 0 (fun _ => 0) (fun _ => 0) 0) (va_runI (As := []) (rest := [.ref q5]) ⟨hx, hb, hml, hown, hts⟩ (kX5_init l G q5 H.size) (cwI 0 hts gL_law_X5_init rfl rfl rfl (hts (.initialized RX5) (List.mem_of_getElem? (i := 5) (by decide +kernel))) (hts (.methodLink RL 12 yX5_init) (List.mem_of_getElem? (i := 70) (by decide +kernel))) (hts (.instanceMethod yX5_init) (List.mem_of_getElem? (i := 71) (by decide +kernel))) rfl (by decide +kernel) ⟨Nat.le_of_ble_eq_true rfl, Nat.le_of_ble_eq_true rfl⟩) (zPreO hG hGO ⟨rfl, zP_r hP⟩) rfl rfl hl.1 rfl (lv_room (Nat.le_of_ble_eq_true rfl)) dL_law_12 ⟨Nat.le_of_ble_eq_true rfl, Nat.le_of_ble_eq_true rfl⟩) hP hD hS hA (fun H locs hB hw hS => ?_)
  obtain ⟨m, hm, hPn, hDn⟩ := hB
  subst hm
  obtain ⟨hP, hD⟩ := hw _ hPn hDn
  refine lv_astore_n (lv' := [(2, .ref (m 0)), (1, .ref (ad 0 0)), (0, .ref b)]) hx hb dL_law_15 rfl hl (by decide) rfl (fun ls hl => ?_)
  refine lv_iconst (v := nI 0) hx hb dL_law_16 (by decide +kernel) ?_
  refine lv_istore_n (lv' := [(3, .int (nI 0)), (2, .ref (m 0)), (1, .ref (ad 0 0)), (0, .ref b)]) hx hb dL_law_17 rfl hl (by decide) rfl (fun ls hl => ?_)
  refine W.widen (k := 600000) (n := 7302250) (Nat.le_of_ble_eq_true rfl) (Nat.le_of_ble_eq_true rfl) ?_
  have hO : Ok 1 (bgn 3 2 1 20) := bgn_ok1
  exact law_loop C0 hG hend (L + 1) 0 (by omega) (by omega) _ _ _ _ _ _ _ _ _ _ _ _ _ ⟨hO, cln_bgn hO, by omega, by omega, by omega, fun _ _ => Nat.le_of_ble_eq_true rfl, fun i hi => absurd hi (Nat.not_lt_zero i)⟩ hP hD hS (lv_sub hl [0, 2, 1, 3] rfl)
