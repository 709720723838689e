theorem z_out {x : Int32} {h : Nat} (hh : h < 2 ^ 31) (hv : ¬ (nI 0 ≤ x ∧ x ≤ nI h)) : x.toInt < 0 ∨ (h : Int) < x.toInt := by
  by_cases q : x.toInt < 0
  · exact Or.inl q
  · right
    refine Int.lt_of_not_ge (fun z => hv ⟨?_, ?_⟩)
    · rw [Int32.le_iff_toInt_le, nI_toInt (by omega)]; omega
    · rw [Int32.le_iff_toInt_le, nI_toInt hh]; exact z
theorem kX0_begin_A (l : Launch) (G : zG) (a σ : Nat → Nat) (c r : Nat) (hd : va_D (fun _ => True) (wA G a σ)) : Met l yX0_begin wsX0_begin (zRm 1 23) (zPc G [.ref (a 0), .int (nI c), .int (nI r)] (va_P G.1 vwCl (wA G a σ))) (zQ (zA (wA G a σ)) none (va_P G.1 vwCl (wA G a (bgn c r (σ 2) (σ 3))))) 0 0 (zA (wA G a σ)) :=
  kX0_begin l G a (σ 0) (σ 1) (σ 2) (σ 3) (fun i => nI (sgF σ i)) (fun i => nI (mnF σ i)) (fun k => nI (rvn σ k)) (fun k => pbF σ k) (fun k => nI (scn σ k)) (fun e => nI (agF σ e)) c r hd
theorem Ok.bg {N : Nat} {σ : Nat → Nat} (h : Ok N σ) {c r : Nat} (hc : 1 ≤ c ∧ c ≤ 6) (hr : 1 ≤ r ∧ r ≤ 6) : Ok N (bgn c r (σ 2) (σ 3)) := by
  obtain ⟨h0, h1, h2, h3, h4, h5, h6, h7, h8, h9, h10⟩ := h
  have hN := h7 0 (by omega)
  refine ⟨hc, hr, h2, h3, fun e he => ?_, fun k j hk hj => ?_, fun k j hk hj => ?_, fun k hk => ?_, fun k hk => ?_, fun k hk => ?_, h10⟩
  · unfold bgn
    rw [if_neg (by omega), if_neg (by omega), if_neg (by omega), if_neg (by omega), if_pos (by omega)]
    omega
  · unfold bgn
    rw [if_neg (by omega), if_neg (by omega), if_neg (by omega), if_neg (by omega), if_neg (by omega), if_pos (by omega)]
    omega
  · unfold bgn
    rw [if_neg (by omega), if_neg (by omega), if_neg (by omega), if_neg (by omega), if_neg (by omega), if_neg (by omega), if_pos (by omega)]
    omega
  · unfold bgn
    rw [if_neg (by omega), if_neg (by omega), if_neg (by omega), if_neg (by omega), if_neg (by omega), if_neg (by omega), if_neg (by omega), if_pos (by omega)]
    omega
  · unfold bgn
    rw [if_neg (by omega), if_neg (by omega), if_neg (by omega), if_neg (by omega), if_neg (by omega), if_neg (by omega), if_neg (by omega), if_pos (by omega)]
    omega
  · unfold bgn
    rw [if_neg (by omega), if_neg (by omega), if_neg (by omega), if_neg (by omega), if_neg (by omega), if_neg (by omega), if_neg (by omega), if_neg (by omega)]
    omega
set_option maxHeartbeats 4000000 in
set_option maxRecDepth 100000 in
theorem kX4_grid_inv (l : Launch) (G : zG) (ad : Nat → Nat → Nat) (σ : Nat → Nat) (T : Nat → Nat → Nat) (o n : Nat) (f : Nat → Int32) (x : Nat → Nat) (len : Nat) {N : Nat} (x1 : Int32) (x2 : Int32) (hO : Ok N σ) (ho : o < 5) (hn : n ≤ 4) (hv : ¬ ((nI 1 ≤ x1 ∧ x1 ≤ nI 6) ∧ (nI 1 ≤ x2 ∧ x2 ≤ nI 6))) (hd : va_D (fun _ => True) (wX G ad σ T o n f x len)) : Met l yX4_grid wsX4_grid (zRm 4 104) (zPc G [.ref (ad 0 0), .int x1, .int x2] (va_P G.1 vwCl (wX G ad σ T o n f x len))) (zQ (zA (wX G ad σ T o n f x len)) (some (.int ((-1)))) (va_P G.1 vwCl (wX G ad σ T o n f x len))) 0 0 (zA (wX G ad σ T o n f x len)) := by
  refine zmkWi (w := (wX G ad σ T o n f x len)) hd (cc := cX4_grid) (maxL := 3) (by decide) rfl (Nat.le_of_ble_eq_true rfl) ?_
  intro pr en st mi ar bl me cd ls Q hx hb hml hown hts hG hP hl hD hS hret
  have hown : st.vm.findClass RX4 = some mi.cls := hown
  have hl : lv_has ls 3 [(0, .ref (ad 0 0)), (1, .int x1), (2, .int x2)] := hl
  have hP : va_P G.1 vwCl (wX G ad σ T o n f x len) st.heap := hP
  have hD : va_D (zA (wX G ad σ T o n f x len)) (wX G ad σ T o n f x len) := hD
  have hc := hO.c
  have hs := hO.lS
  have hr := hO.lR
  have hne := hO.lE
  refine lv_iload_n hx hb dX4_grid_0 rfl (lv_at hl 1 rfl) ?_
  refine lv_iconst (v := nI 1) hx hb dX4_grid_1 (by decide) ?_
  refine lv_bipush (v := nI 6) hx hb dX4_grid_2 (by decide) ?_
  refine zrdS (As := [.int x1, .int (nI 1), .int (nI 6)]) ⟨hx, hb, hml, hown, hts⟩ (kX4_isWithin l G  x1 (nI 1) (nI 6)) (va_cwS 3 hts gX4_grid_X4_isWithin rfl rfl rfl (by decide +kernel) ⟨Nat.le_of_ble_eq_true rfl, Nat.le_of_ble_eq_true rfl⟩) hG (trivial) rfl rfl hl.1 dX4_grid_4 (Nat.le_of_ble_eq_true rfl) ⟨Nat.le_of_ble_eq_true rfl, Nat.le_of_ble_eq_true rfl⟩ ?_
  refine lv_if_eq (tgt := 20) hx hb dX4_grid_7 (by decide) (fun h7 => ?_) (fun h7 => ?_)
  · skip
    have h7 : ¬ ((nI 1) ≤ x1 ∧ x1 ≤ (nI 6)) := (z_b0).mp h7
    refine lv_iconst (v := (-1)) hx hb dX4_grid_20 (by decide) ?_
    exact hret _ _ _ _ _ dX4_grid_21 hS (hP) (rfl)
  · skip
    have h7 : ¬ (¬ ((nI 1) ≤ x1 ∧ x1 ≤ (nI 6))) := fun q => h7 ((z_b0).mpr q)
    have h7 : (nI 1) ≤ x1 ∧ x1 ≤ (nI 6) := Decidable.of_not_not h7
    refine lv_iload_n hx hb dX4_grid_10 rfl (lv_at hl 2 rfl) ?_
    refine lv_iconst (v := nI 1) hx hb dX4_grid_11 (by decide) ?_
    refine lv_bipush (v := nI 6) hx hb dX4_grid_12 (by decide) ?_
    refine zrdS (As := [.int x2, .int (nI 1), .int (nI 6)]) ⟨hx, hb, hml, hown, hts⟩ (kX4_isWithin l G  x2 (nI 1) (nI 6)) (va_cwS 3 hts gX4_grid_X4_isWithin rfl rfl rfl (by decide +kernel) ⟨Nat.le_of_ble_eq_true rfl, Nat.le_of_ble_eq_true rfl⟩) hG (trivial) rfl rfl hl.1 dX4_grid_14 (Nat.le_of_ble_eq_true rfl) ⟨Nat.le_of_ble_eq_true rfl, Nat.le_of_ble_eq_true rfl⟩ ?_
    refine lv_if_ne (tgt := 22) hx hb dX4_grid_17 (by decide) (fun h17 => ?_) (fun h17 => ?_)
    · skip
      have h17 : ¬ (¬ ((nI 1) ≤ x2 ∧ x2 ≤ (nI 6))) := fun q => h17 ((z_b0).mpr q)
      have h17 : (nI 1) ≤ x2 ∧ x2 ≤ (nI 6) := Decidable.of_not_not h17
      exact absurd ⟨h7, h17⟩ hv
    · skip
      have h17 : ¬ ((nI 1) ≤ x2 ∧ x2 ≤ (nI 6)) := (z_b0).mp h17
      refine lv_iconst (v := (-1)) hx hb dX4_grid_20 (by decide) ?_
      exact hret _ _ _ _ _ dX4_grid_21 hS (hP) (rfl)
set_option maxHeartbeats 4000000 in
set_option maxRecDepth 100000 in
theorem kX4_grid_ok (l : Launch) (G : zG) (ad : Nat → Nat → Nat) (σ : Nat → Nat) (T : Nat → Nat → Nat) (o n : Nat) (f : Nat → Int32) (x : Nat → Nat) (len : Nat) {N : Nat} (c : Nat) (r : Nat) (hO : Ok N σ) (ho : o < 5) (hn : n ≤ 4) (hc1 : 1 ≤ c) (hc6 : c ≤ 6) (hr1 : 1 ≤ r) (hr6 : r ≤ 6) (hd : va_D (fun _ => True) (wX G ad σ T o n f x len)) : Met l yX4_grid wsX4_grid (zRm 4 104) (zPc G [.ref (ad 0 0), .int (nI c), .int (nI r)] (va_P G.1 vwCl (wX G ad σ T o n f x len))) (zQ (zA (wX G ad σ T o n f x len)) (some (.int (nI (nE (bgn c r (σ 2) (σ 3)))))) (va_P G.1 vwCl (wX G ad (bgn c r (σ 2) (σ 3)) (upT T ((o + n) % 5) σ) (nO o n) (nN n) f x len))) 0 0 (zA (wX G ad σ T o n f x len)) := by
  refine zmkWi (w := (wX G ad σ T o n f x len)) hd (cc := cX4_grid) (maxL := 3) (by decide) rfl (Nat.le_of_ble_eq_true rfl) ?_
  intro pr en st mi ar bl me cd ls Q hx hb hml hown hts hG hP hl hD hS hret
  have hown : st.vm.findClass RX4 = some mi.cls := hown
  have hl : lv_has ls 3 [(0, .ref (ad 0 0)), (1, .int (nI c)), (2, .int (nI r))] := hl
  have hP : va_P G.1 vwCl (wX G ad σ T o n f x len) st.heap := hP
  have hD : va_D (zA (wX G ad σ T o n f x len)) (wX G ad σ T o n f x len) := hD
  have hinX4 : ∀ w ∈ wsX40, w ∈ wsX4_grid := by decide +kernel
  have hf19 := hts (.fieldLink RX4 19 "MapSheets" "history" "LMapSheets$History;") (by decide +kernel)
  have hf10 := hts (.fieldLink RX4 10 "MapSheets" "now" "LMapSheets$Atlas;") (by decide +kernel)
  have hc := hO.c
  have hs := hO.lS
  have hr := hO.lR
  have hne := hO.lE
  have hvc : nI 1 ≤ nI c ∧ nI c ≤ nI 6 := ⟨nI_le (by omega) (by omega), nI_le (by omega) (by omega)⟩
  have hvr : nI 1 ≤ nI r ∧ nI r ≤ nI 6 := ⟨nI_le (by omega) (by omega), nI_le (by omega) (by omega)⟩
  refine lv_iload_n hx hb dX4_grid_0 rfl (lv_at hl 1 rfl) ?_
  refine lv_iconst (v := nI 1) hx hb dX4_grid_1 (by decide) ?_
  refine lv_bipush (v := nI 6) hx hb dX4_grid_2 (by decide) ?_
  refine zrdS (As := [.int (nI c), .int (nI 1), .int (nI 6)]) ⟨hx, hb, hml, hown, hts⟩ (kX4_isWithin l G  (nI c) (nI 1) (nI 6)) (va_cwS 3 hts gX4_grid_X4_isWithin rfl rfl rfl (by decide +kernel) ⟨Nat.le_of_ble_eq_true rfl, Nat.le_of_ble_eq_true rfl⟩) hG (trivial) rfl rfl hl.1 dX4_grid_4 (Nat.le_of_ble_eq_true rfl) ⟨Nat.le_of_ble_eq_true rfl, Nat.le_of_ble_eq_true rfl⟩ ?_
  refine lv_if_eq (tgt := 20) hx hb dX4_grid_7 (by decide) (fun h7 => ?_) (fun h7 => ?_)
  · skip
    have h7 : ¬ ((nI 1) ≤ (nI c) ∧ (nI c) ≤ (nI 6)) := (z_b0).mp h7
    exact absurd hvc h7
  · skip
    have h7 : ¬ (¬ ((nI 1) ≤ (nI c) ∧ (nI c) ≤ (nI 6))) := fun q => h7 ((z_b0).mpr q)
    have h7 : (nI 1) ≤ (nI c) ∧ (nI c) ≤ (nI 6) := Decidable.of_not_not h7
    refine lv_iload_n hx hb dX4_grid_10 rfl (lv_at hl 2 rfl) ?_
    refine lv_iconst (v := nI 1) hx hb dX4_grid_11 (by decide) ?_
    refine lv_bipush (v := nI 6) hx hb dX4_grid_12 (by decide) ?_
    refine zrdS (As := [.int (nI r), .int (nI 1), .int (nI 6)]) ⟨hx, hb, hml, hown, hts⟩ (kX4_isWithin l G  (nI r) (nI 1) (nI 6)) (va_cwS 3 hts gX4_grid_X4_isWithin rfl rfl rfl (by decide +kernel) ⟨Nat.le_of_ble_eq_true rfl, Nat.le_of_ble_eq_true rfl⟩) hG (trivial) rfl rfl hl.1 dX4_grid_14 (Nat.le_of_ble_eq_true rfl) ⟨Nat.le_of_ble_eq_true rfl, Nat.le_of_ble_eq_true rfl⟩ ?_
    refine lv_if_ne (tgt := 22) hx hb dX4_grid_17 (by decide) (fun h17 => ?_) (fun h17 => ?_)
    · skip
      have h17 : ¬ (¬ ((nI 1) ≤ (nI r) ∧ (nI r) ≤ (nI 6))) := fun q => h17 ((z_b0).mpr q)
      have h17 : (nI 1) ≤ (nI r) ∧ (nI r) ≤ (nI 6) := Decidable.of_not_not h17
      refine lv_aload_n hx hb dX4_grid_22 rfl (lv_at hl 0 rfl) ?_
      refine va_get (D := G.1) (ci := 4) (v := .ref (ad 2 0)) (C := RX4) (T := TX4) (N := 4) hx hb hts hinX4 hown hG.1 hP 0 rfl rfl 1 (by decide) hf19 (fun _ h9 => h9) rfl dX4_grid_23 ?_
      refine lv_aload_n hx hb dX4_grid_26 rfl (lv_at hl 0 rfl) ?_
      refine va_get (D := G.1) (ci := 4) (v := .ref (ad 1 0)) (C := RX4) (T := TX4) (N := 4) hx hb hts hinX4 hown hG.1 hP 0 rfl rfl 0 (by decide) hf10 (fun _ h9 => h9) rfl dX4_grid_27 ?_
      refine zwrEv (G := G) (wc' := (wHo G (ad 2) (aH ad) o n ++ (wTs G (aH ad) (upT T ((o + n) % 5) σ) 5 ++ wA G (ad 1) σ))) (ws' := (wX G ad σ (upT T ((o + n) % 5) σ) o n f x len)) (va_runV (As := [.ref (ad 1 0)]) (rest := []) ⟨hx, hb, hml, hown, hts⟩ (kX2_recordState l G (ad 2) (aH ad) o n T (ad 1) σ (by omega) (by omega) (zD_any (wX_dHA hD))) (cwV 1 hts gX4_grid_X2_recordState rfl rfl rfl (by decide +kernel) ⟨Nat.le_of_ble_eq_true rfl, Nat.le_of_ble_eq_true rfl⟩) (zPreV hG (va_recv (q0 := 0) (ci := 2) hG.1 (wX_pH hP) rfl rfl) (wX_pHA hP)) rfl rfl hl.1 rfl (lv_room (Nat.le_of_ble_eq_true rfl)) dX4_grid_30 ⟨Nat.le_of_ble_eq_true rfl, Nat.le_of_ble_eq_true rfl⟩) (wX_eHA) (wX_eHA) hP hD hS (wHA_map _ _ _ _ _ _ _ _ _ _ _ _) (fun H locs hP hD hS => ?_)
      have hP : va_P G.1 vwCl (wX G ad σ (upT T ((o + n) % 5) σ) o n f x len) H := hP
      have hD : va_D (zA (wX G ad σ T o n f x len)) (wX G ad σ (upT T ((o + n) % 5) σ) o n f x len) := hD
      refine lv_aload_n hx hb dX4_grid_33 rfl (lv_at hl 0 rfl) ?_
      refine va_get (D := G.1) (ci := 4) (v := .ref (ad 1 0)) (C := RX4) (T := TX4) (N := 4) hx hb hts hinX4 hown hG.1 hP 0 rfl rfl 0 (by decide) hf10 (fun _ h9 => h9) rfl dX4_grid_34 ?_
      refine lv_iload_n hx hb dX4_grid_37 rfl (lv_at hl 1 rfl) ?_
      refine lv_iload_n hx hb dX4_grid_38 rfl (lv_at hl 2 rfl) ?_
      refine zwrEv (G := G) (wc' := (wA G (ad 1) (bgn c r (σ 2) (σ 3)))) (ws' := (wX G ad (bgn c r (σ 2) (σ 3)) (upT T ((o + n) % 5) σ) o n f x len)) (va_runV (As := [.int (nI c), .int (nI r)]) (rest := []) ⟨hx, hb, hml, hown, hts⟩ (kX0_begin_A l G (ad 1) σ c r (zD_any (wX_dA hD))) (cwV 2 hts gX4_grid_X0_begin rfl rfl rfl (by decide +kernel) ⟨Nat.le_of_ble_eq_true rfl, Nat.le_of_ble_eq_true rfl⟩) (zPreV hG (va_recv (q0 := 0) (ci := 0) hG.1 (wX_pA hP) rfl rfl) ((wX_pA hP))) rfl rfl hl.1 rfl (lv_room (Nat.le_of_ble_eq_true rfl)) dX4_grid_39 ⟨Nat.le_of_ble_eq_true rfl, Nat.le_of_ble_eq_true rfl⟩) (wX_eA) (wX_eA) hP hD hS rfl (fun H locs hP hD hS => ?_)
      have hP : va_P G.1 vwCl (wX G ad (bgn c r (σ 2) (σ 3)) (upT T ((o + n) % 5) σ) o n f x len) H := hP
      have hD : va_D (zA (wX G ad σ T o n f x len)) (wX G ad (bgn c r (σ 2) (σ 3)) (upT T ((o + n) % 5) σ) o n f x len) := hD
      refine lv_aload_n hx hb dX4_grid_42 rfl (lv_at hl 0 rfl) ?_
      refine va_get (D := G.1) (ci := 4) (v := .ref (ad 2 0)) (C := RX4) (T := TX4) (N := 4) hx hb hts hinX4 hown hG.1 hP 0 rfl rfl 1 (by decide) hf19 (fun _ h9 => h9) rfl dX4_grid_43 ?_
      refine zwrEv (G := G) (wc' := (wHo G (ad 2) (aH ad) (nO o n) (nN n))) (ws' := (wX G ad (bgn c r (σ 2) (σ 3)) (upT T ((o + n) % 5) σ) (nO o n) (nN n) f x len)) (va_runV (As := []) (rest := []) ⟨hx, hb, hml, hown, hts⟩ (kX2_keepRecord l G (ad 2) (aH ad) o n (by omega) (by omega) (zD_any (wX_dH hD))) (cwV 0 hts gX4_grid_X2_keepRecord rfl rfl rfl (by decide +kernel) ⟨Nat.le_of_ble_eq_true rfl, Nat.le_of_ble_eq_true rfl⟩) (zPreV hG (va_recv (q0 := 0) (ci := 2) hG.1 (wX_pH hP) rfl rfl) (wX_pH hP)) rfl rfl hl.1 rfl (lv_room (Nat.le_of_ble_eq_true rfl)) dX4_grid_46 ⟨Nat.le_of_ble_eq_true rfl, Nat.le_of_ble_eq_true rfl⟩) (wX_eH) (wX_eH) hP hD hS rfl (fun H locs hP hD hS => ?_)
      have hP : va_P G.1 vwCl (wX G ad (bgn c r (σ 2) (σ 3)) (upT T ((o + n) % 5) σ) (nO o n) (nN n) f x len) H := hP
      have hD : va_D (zA (wX G ad σ T o n f x len)) (wX G ad (bgn c r (σ 2) (σ 3)) (upT T ((o + n) % 5) σ) (nO o n) (nN n) f x len) := hD
      refine lv_aload_n hx hb dX4_grid_49 rfl (lv_at hl 0 rfl) ?_
      refine va_get (D := G.1) (ci := 4) (v := .ref (ad 1 0)) (C := RX4) (T := TX4) (N := 4) hx hb hts hinX4 hown hG.1 hP 0 rfl rfl 0 (by decide) hf10 (fun _ h9 => h9) rfl dX4_grid_50 ?_
      refine zrdV (As := []) ⟨hx, hb, hml, hown, hts⟩ (kX0_edgeCount l G (ad 1) (bgn c r (σ 2) (σ 3)) (hO.bg ⟨hc1, hc6⟩ ⟨hr1, hr6⟩)) (cwV 0 hts gX4_grid_X0_edgeCount rfl rfl rfl (by decide +kernel) ⟨Nat.le_of_ble_eq_true rfl, Nat.le_of_ble_eq_true rfl⟩) hG (va_recv (q0 := 0) (ci := 0) hG.1 (wX_pA hP) rfl rfl) ((wX_pA hP)) rfl rfl hl.1 dX4_grid_53 (Nat.le_of_ble_eq_true rfl) ⟨Nat.le_of_ble_eq_true rfl, Nat.le_of_ble_eq_true rfl⟩ ?_
      exact hret _ _ _ _ _ dX4_grid_56 hS (hP) (congrArg nI (rfl))
    · skip
      have h17 : ¬ ((nI 1) ≤ (nI r) ∧ (nI r) ≤ (nI 6)) := (z_b0).mp h17
      exact absurd hvr h17
set_option maxHeartbeats 4000000 in
set_option maxRecDepth 100000 in
theorem kX4_set_inv (l : Launch) (G : zG) (ad : Nat → Nat → Nat) (σ : Nat → Nat) (T : Nat → Nat → Nat) (o n : Nat) (f : Nat → Int32) (x : Nat → Nat) (len : Nat) {N : Nat} (x1 : Int32) (x2 : Int32) (hO : Ok N σ) (ho : o < 5) (hn : n ≤ 4) (hv : ¬ ((nI 0 ≤ x1 ∧ x1 ≤ nI 1) ∧ (nI 0 ≤ x2 ∧ x2 ≤ (if x1 = 0 then nI 1 else nI 1000)))) (hd : va_D (fun _ => True) (wX G ad σ T o n f x len)) : Met l yX4_set wsX4_set (zRm 4 104) (zPc G [.ref (ad 0 0), .int x1, .int x2] (va_P G.1 vwCl (wX G ad σ T o n f x len))) (zQ (zA (wX G ad σ T o n f x len)) (some (.int ((-1)))) (va_P G.1 vwCl (wX G ad σ T o n f x len))) 0 0 (zA (wX G ad σ T o n f x len)) := by
  refine zmkWi (w := (wX G ad σ T o n f x len)) hd (cc := cX4_set) (maxL := 4) (by decide) rfl (Nat.le_of_ble_eq_true rfl) ?_
  intro pr en st mi ar bl me cd ls Q hx hb hml hown hts hG hP hl hD hS hret
  have hown : st.vm.findClass RX4 = some mi.cls := hown
  have hl : lv_has ls 4 [(0, .ref (ad 0 0)), (1, .int x1), (2, .int x2)] := hl
  have hP : va_P G.1 vwCl (wX G ad σ T o n f x len) st.heap := hP
  have hD : va_D (zA (wX G ad σ T o n f x len)) (wX G ad σ T o n f x len) := hD
  have hc := hO.c
  have hs := hO.lS
  have hr := hO.lR
  have hne := hO.lE
  refine lv_iload_n hx hb dX4_set_0 rfl (lv_at hl 1 rfl) ?_
  refine lv_iconst (v := nI 0) hx hb dX4_set_1 (by decide) ?_
  refine lv_iconst (v := nI 1) hx hb dX4_set_2 (by decide) ?_
  refine zrdS (As := [.int x1, .int (nI 0), .int (nI 1)]) ⟨hx, hb, hml, hown, hts⟩ (kX4_isWithin l G  x1 (nI 0) (nI 1)) (va_cwS 3 hts gX4_set_X4_isWithin rfl rfl rfl (by decide +kernel) ⟨Nat.le_of_ble_eq_true rfl, Nat.le_of_ble_eq_true rfl⟩) hG (trivial) rfl rfl hl.1 dX4_set_3 (Nat.le_of_ble_eq_true rfl) ⟨Nat.le_of_ble_eq_true rfl, Nat.le_of_ble_eq_true rfl⟩ ?_
  refine lv_if_eq (tgt := 28) hx hb dX4_set_6 (by decide) (fun h6 => ?_) (fun h6 => ?_)
  · skip
    have h6 : ¬ ((nI 0) ≤ x1 ∧ x1 ≤ (nI 1)) := (z_b0).mp h6
    refine lv_iconst (v := (-1)) hx hb dX4_set_28 (by decide) ?_
    exact hret _ _ _ _ _ dX4_set_29 hS (hP) (rfl)
  · skip
    have h6 : ¬ (¬ ((nI 0) ≤ x1 ∧ x1 ≤ (nI 1))) := fun q => h6 ((z_b0).mpr q)
    have h6 : (nI 0) ≤ x1 ∧ x1 ≤ (nI 1) := Decidable.of_not_not h6
    refine lv_iload_n hx hb dX4_set_9 rfl (lv_at hl 2 rfl) ?_
    refine lv_iconst (v := nI 0) hx hb dX4_set_10 (by decide) ?_
    refine lv_iload_n hx hb dX4_set_11 rfl (lv_at hl 1 rfl) ?_
    refine lv_if_ne (tgt := 19) hx hb dX4_set_12 (by decide) (fun h12 => ?_) (fun h12 => ?_)
    · skip
      refine lv_sipush (v := nI 1000) hx hb dX4_set_19 (by decide) ?_
      refine zrdS (As := [.int x2, .int (nI 0), .int (nI 1000)]) ⟨hx, hb, hml, hown, hts⟩ (kX4_isWithin l G  x2 (nI 0) (nI 1000)) (va_cwS 3 hts gX4_set_X4_isWithin rfl rfl rfl (by decide +kernel) ⟨Nat.le_of_ble_eq_true rfl, Nat.le_of_ble_eq_true rfl⟩) hG (trivial) rfl rfl hl.1 dX4_set_22 (Nat.le_of_ble_eq_true rfl) ⟨Nat.le_of_ble_eq_true rfl, Nat.le_of_ble_eq_true rfl⟩ ?_
      refine lv_if_ne (tgt := 30) hx hb dX4_set_25 (by decide) (fun h25 => ?_) (fun h25 => ?_)
      · skip
        have h25 : ¬ (¬ ((nI 0) ≤ x2 ∧ x2 ≤ (nI 1000))) := fun q => h25 ((z_b0).mpr q)
        have h25 : (nI 0) ≤ x2 ∧ x2 ≤ (nI 1000) := Decidable.of_not_not h25
        exact absurd ⟨h6, by rw [if_neg h12]; exact h25⟩ hv
      · skip
        have h25 : ¬ ((nI 0) ≤ x2 ∧ x2 ≤ (nI 1000)) := (z_b0).mp h25
        refine lv_iconst (v := (-1)) hx hb dX4_set_28 (by decide) ?_
        exact hret _ _ _ _ _ dX4_set_29 hS (hP) (rfl)
    · skip
      refine lv_iconst (v := nI 1) hx hb dX4_set_15 (by decide) ?_
      refine lv_goto (tgt := 22) hx hb dX4_set_16 (by decide) ?_
      refine zrdS (As := [.int x2, .int (nI 0), .int (nI 1)]) ⟨hx, hb, hml, hown, hts⟩ (kX4_isWithin l G  x2 (nI 0) (nI 1)) (va_cwS 3 hts gX4_set_X4_isWithin rfl rfl rfl (by decide +kernel) ⟨Nat.le_of_ble_eq_true rfl, Nat.le_of_ble_eq_true rfl⟩) hG (trivial) rfl rfl hl.1 dX4_set_22 (Nat.le_of_ble_eq_true rfl) ⟨Nat.le_of_ble_eq_true rfl, Nat.le_of_ble_eq_true rfl⟩ ?_
      refine lv_if_ne (tgt := 30) hx hb dX4_set_25 (by decide) (fun h25 => ?_) (fun h25 => ?_)
      · skip
        have h25 : ¬ (¬ ((nI 0) ≤ x2 ∧ x2 ≤ (nI 1))) := fun q => h25 ((z_b0).mpr q)
        have h25 : (nI 0) ≤ x2 ∧ x2 ≤ (nI 1) := Decidable.of_not_not h25
        exact absurd ⟨h6, by rw [if_pos h12]; exact h25⟩ hv
      · skip
        have h25 : ¬ ((nI 0) ≤ x2 ∧ x2 ≤ (nI 1)) := (z_b0).mp h25
        refine lv_iconst (v := (-1)) hx hb dX4_set_28 (by decide) ?_
        exact hret _ _ _ _ _ dX4_set_29 hS (hP) (rfl)
set_option maxHeartbeats 4000000 in
set_option maxRecDepth 100000 in
theorem kX4_set_guard (l : Launch) (G : zG) (ad : Nat → Nat → Nat) (σ : Nat → Nat) (T : Nat → Nat → Nat) (o n : Nat) (f : Nat → Int32) (x : Nat → Nat) (len : Nat) {N : Nat} (v : Nat) (hO : Ok N σ) (ho : o < 5) (hn : n ≤ 4) (hv1 : v ≤ 1) (hd : va_D (fun _ => True) (wX G ad σ T o n f x len)) : Met l yX4_set wsX4_set (zRm 4 104) (zPc G [.ref (ad 0 0), .int (nI 0), .int (nI v)] (va_P G.1 vwCl (wX G ad σ T o n f x len))) (zQ (zA (wX G ad σ T o n f x len)) (some (.int (nI (σ 2)))) (va_P G.1 vwCl (wX G ad (su σ 2 v) (upT T ((o + n) % 5) σ) (nO o n) (nN n) f x len))) 0 0 (zA (wX G ad σ T o n f x len)) := by
  refine zmkWi (w := (wX G ad σ T o n f x len)) hd (cc := cX4_set) (maxL := 4) (by decide) rfl (Nat.le_of_ble_eq_true rfl) ?_
  intro pr en st mi ar bl me cd ls Q hx hb hml hown hts hG hP hl hD hS hret
  have hown : st.vm.findClass RX4 = some mi.cls := hown
  have hl : lv_has ls 4 [(0, .ref (ad 0 0)), (1, .int (nI 0)), (2, .int (nI v))] := hl
  have hP : va_P G.1 vwCl (wX G ad σ T o n f x len) st.heap := hP
  have hD : va_D (zA (wX G ad σ T o n f x len)) (wX G ad σ T o n f x len) := hD
  have hinX4 : ∀ w ∈ wsX40, w ∈ wsX4_set := by decide +kernel
  have hf19 := hts (.fieldLink RX4 19 "MapSheets" "history" "LMapSheets$History;") (by decide +kernel)
  have hf10 := hts (.fieldLink RX4 10 "MapSheets" "now" "LMapSheets$Atlas;") (by decide +kernel)
  have hc := hO.c
  have hs := hO.lS
  have hr := hO.lR
  have hne := hO.lE
  have hvw : nI 0 ≤ nI 0 ∧ nI 0 ≤ nI 1 := by decide
  have hvv : nI 0 ≤ nI v ∧ nI v ≤ nI 1 := z_lem hv1 (by omega)
  refine lv_iload_n hx hb dX4_set_0 rfl (lv_at hl 1 rfl) ?_
  refine lv_iconst (v := nI 0) hx hb dX4_set_1 (by decide) ?_
  refine lv_iconst (v := nI 1) hx hb dX4_set_2 (by decide) ?_
  refine zrdS (As := [.int (nI 0), .int (nI 0), .int (nI 1)]) ⟨hx, hb, hml, hown, hts⟩ (kX4_isWithin l G  (nI 0) (nI 0) (nI 1)) (va_cwS 3 hts gX4_set_X4_isWithin rfl rfl rfl (by decide +kernel) ⟨Nat.le_of_ble_eq_true rfl, Nat.le_of_ble_eq_true rfl⟩) hG (trivial) rfl rfl hl.1 dX4_set_3 (Nat.le_of_ble_eq_true rfl) ⟨Nat.le_of_ble_eq_true rfl, Nat.le_of_ble_eq_true rfl⟩ ?_
  refine lv_if_eq (tgt := 28) hx hb dX4_set_6 (by decide) (fun h6 => ?_) (fun h6 => ?_)
  · skip
    have h6 : ¬ ((nI 0) ≤ (nI 0) ∧ (nI 0) ≤ (nI 1)) := (z_b0).mp h6
    exact absurd hvw h6
  · skip
    have h6 : ¬ (¬ ((nI 0) ≤ (nI 0) ∧ (nI 0) ≤ (nI 1))) := fun q => h6 ((z_b0).mpr q)
    have h6 : (nI 0) ≤ (nI 0) ∧ (nI 0) ≤ (nI 1) := Decidable.of_not_not h6
    refine lv_iload_n hx hb dX4_set_9 rfl (lv_at hl 2 rfl) ?_
    refine lv_iconst (v := nI 0) hx hb dX4_set_10 (by decide) ?_
    refine lv_iload_n hx hb dX4_set_11 rfl (lv_at hl 1 rfl) ?_
    refine lv_if_ne (tgt := 19) hx hb dX4_set_12 (by decide) (fun h12 => ?_) (fun h12 => ?_)
    · skip
      have h12 : ¬ (0 = 0) := fun q => h12 ((z_eq0 (by omega)).mpr q)
      have h12 : 0 < 0 := Nat.pos_of_ne_zero h12
      exfalso; omega
    · skip
      have h12 : 0 = 0 := (z_eq0 (by omega)).mp h12
      refine lv_iconst (v := nI 1) hx hb dX4_set_15 (by decide) ?_
      refine lv_goto (tgt := 22) hx hb dX4_set_16 (by decide) ?_
      refine zrdS (As := [.int (nI v), .int (nI 0), .int (nI 1)]) ⟨hx, hb, hml, hown, hts⟩ (kX4_isWithin l G  (nI v) (nI 0) (nI 1)) (va_cwS 3 hts gX4_set_X4_isWithin rfl rfl rfl (by decide +kernel) ⟨Nat.le_of_ble_eq_true rfl, Nat.le_of_ble_eq_true rfl⟩) hG (trivial) rfl rfl hl.1 dX4_set_22 (Nat.le_of_ble_eq_true rfl) ⟨Nat.le_of_ble_eq_true rfl, Nat.le_of_ble_eq_true rfl⟩ ?_
      refine lv_if_ne (tgt := 30) hx hb dX4_set_25 (by decide) (fun h25 => ?_) (fun h25 => ?_)
      · skip
        have h25 : ¬ (¬ ((nI 0) ≤ (nI v) ∧ (nI v) ≤ (nI 1))) := fun q => h25 ((z_b0).mpr q)
        have h25 : (nI 0) ≤ (nI v) ∧ (nI v) ≤ (nI 1) := Decidable.of_not_not h25
        refine lv_aload_n hx hb dX4_set_30 rfl (lv_at hl 0 rfl) ?_
        refine va_get (D := G.1) (ci := 4) (v := .ref (ad 2 0)) (C := RX4) (T := TX4) (N := 4) hx hb hts hinX4 hown hG.1 hP 0 rfl rfl 1 (by decide) hf19 (fun _ h9 => h9) rfl dX4_set_31 ?_
        refine lv_aload_n hx hb dX4_set_34 rfl (lv_at hl 0 rfl) ?_
        refine va_get (D := G.1) (ci := 4) (v := .ref (ad 1 0)) (C := RX4) (T := TX4) (N := 4) hx hb hts hinX4 hown hG.1 hP 0 rfl rfl 0 (by decide) hf10 (fun _ h9 => h9) rfl dX4_set_35 ?_
        refine zwrEv (G := G) (wc' := (wHo G (ad 2) (aH ad) o n ++ (wTs G (aH ad) (upT T ((o + n) % 5) σ) 5 ++ wA G (ad 1) σ))) (ws' := (wX G ad σ (upT T ((o + n) % 5) σ) o n f x len)) (va_runV (As := [.ref (ad 1 0)]) (rest := []) ⟨hx, hb, hml, hown, hts⟩ (kX2_recordState l G (ad 2) (aH ad) o n T (ad 1) σ (by omega) (by omega) (zD_any (wX_dHA hD))) (cwV 1 hts gX4_set_X2_recordState rfl rfl rfl (by decide +kernel) ⟨Nat.le_of_ble_eq_true rfl, Nat.le_of_ble_eq_true rfl⟩) (zPreV hG (va_recv (q0 := 0) (ci := 2) hG.1 (wX_pH hP) rfl rfl) (wX_pHA hP)) rfl rfl hl.1 rfl (lv_room (Nat.le_of_ble_eq_true rfl)) dX4_set_38 ⟨Nat.le_of_ble_eq_true rfl, Nat.le_of_ble_eq_true rfl⟩) (wX_eHA) (wX_eHA) hP hD hS (wHA_map _ _ _ _ _ _ _ _ _ _ _ _) (fun H locs hP hD hS => ?_)
        have hP : va_P G.1 vwCl (wX G ad σ (upT T ((o + n) % 5) σ) o n f x len) H := hP
        have hD : va_D (zA (wX G ad σ T o n f x len)) (wX G ad σ (upT T ((o + n) % 5) σ) o n f x len) := hD
        refine lv_iload_n hx hb dX4_set_41 rfl (lv_at hl 1 rfl) ?_
        refine lv_if_ne (tgt := 56) hx hb dX4_set_42 (by decide) (fun h42 => ?_) (fun h42 => ?_)
        · skip
          have h42 : ¬ (0 = 0) := fun q => h42 ((z_eq0 (by omega)).mpr q)
          have h42 : 0 < 0 := Nat.pos_of_ne_zero h42
          exfalso; omega
        · skip
          have h42 : 0 = 0 := (z_eq0 (by omega)).mp h42
          refine lv_aload_n hx hb dX4_set_45 rfl (lv_at hl 0 rfl) ?_
          refine va_get (D := G.1) (ci := 4) (v := .ref (ad 1 0)) (C := RX4) (T := TX4) (N := 4) hx hb hts hinX4 hown hG.1 hP 0 rfl rfl 0 (by decide) hf10 (fun _ h9 => h9) rfl dX4_set_46 ?_
          refine lv_iload_n hx hb dX4_set_49 rfl (lv_at hl 2 rfl) ?_
          refine zwrE (G := G) (wc' := (wA G (ad 1) (su σ 2 v))) (ws' := (wX G ad (su σ 2 v) (upT T ((o + n) % 5) σ) o n f x len)) (va_runV (As := [.int (nI v)]) (rest := []) ⟨hx, hb, hml, hown, hts⟩ (kX0_putGuard l G (ad 1) σ v (zD_any (wX_dA hD))) (cwV 1 hts gX4_set_X0_putGuard rfl rfl rfl (by decide +kernel) ⟨Nat.le_of_ble_eq_true rfl, Nat.le_of_ble_eq_true rfl⟩) (zPreV hG (va_recv (q0 := 0) (ci := 0) hG.1 (wX_pA hP) rfl rfl) ((wX_pA hP))) rfl rfl hl.1 rfl (lv_room (Nat.le_of_ble_eq_true rfl)) dX4_set_50 ⟨Nat.le_of_ble_eq_true rfl, Nat.le_of_ble_eq_true rfl⟩) (wX_eA) (wX_eA) hP hD hS rfl (fun H locs hP hD hS => ?_)
          have hP : va_P G.1 vwCl (wX G ad (su σ 2 v) (upT T ((o + n) % 5) σ) o n f x len) H := hP
          have hD : va_D (zA (wX G ad σ T o n f x len)) (wX G ad (su σ 2 v) (upT T ((o + n) % 5) σ) o n f x len) := hD
          refine lv_goto (tgt := 64) hx hb dX4_set_53 (by decide) ?_
          refine lv_istore_n (lv' := [(3, .int (nI (σ 2))), (0, .ref (ad 0 0)), (1, .int (nI 0)), (2, .int (nI v))]) hx hb dX4_set_64 rfl hl (by decide) rfl (fun ls hl => ?_)
          refine lv_aload_n hx hb dX4_set_65 rfl (lv_at hl 1 rfl) ?_
          refine va_get (D := G.1) (ci := 4) (v := .ref (ad 2 0)) (C := RX4) (T := TX4) (N := 4) hx hb hts hinX4 hown hG.1 hP 0 rfl rfl 1 (by decide) hf19 (fun _ h9 => h9) rfl dX4_set_66 ?_
          refine zwrEv (G := G) (wc' := (wHo G (ad 2) (aH ad) (nO o n) (nN n))) (ws' := (wX G ad (su σ 2 v) (upT T ((o + n) % 5) σ) (nO o n) (nN n) f x len)) (va_runV (As := []) (rest := []) ⟨hx, hb, hml, hown, hts⟩ (kX2_keepRecord l G (ad 2) (aH ad) o n (by omega) (by omega) (zD_any (wX_dH hD))) (cwV 0 hts gX4_set_X2_keepRecord rfl rfl rfl (by decide +kernel) ⟨Nat.le_of_ble_eq_true rfl, Nat.le_of_ble_eq_true rfl⟩) (zPreV hG (va_recv (q0 := 0) (ci := 2) hG.1 (wX_pH hP) rfl rfl) (wX_pH hP)) rfl rfl hl.1 rfl (lv_room (Nat.le_of_ble_eq_true rfl)) dX4_set_69 ⟨Nat.le_of_ble_eq_true rfl, Nat.le_of_ble_eq_true rfl⟩) (wX_eH) (wX_eH) hP hD hS rfl (fun H locs hP hD hS => ?_)
          have hP : va_P G.1 vwCl (wX G ad (su σ 2 v) (upT T ((o + n) % 5) σ) (nO o n) (nN n) f x len) H := hP
          have hD : va_D (zA (wX G ad σ T o n f x len)) (wX G ad (su σ 2 v) (upT T ((o + n) % 5) σ) (nO o n) (nN n) f x len) := hD
          refine lv_iload_n hx hb dX4_set_72 rfl (lv_at hl 0 rfl) ?_
          exact hret _ _ _ _ _ dX4_set_73 hS (hP) (congrArg nI (rfl))
      · skip
        have h25 : ¬ ((nI 0) ≤ (nI v) ∧ (nI v) ≤ (nI 1)) := (z_b0).mp h25
        exact absurd hvv h25
set_option maxHeartbeats 4000000 in
set_option maxRecDepth 100000 in
theorem kX4_set_tol (l : Launch) (G : zG) (ad : Nat → Nat → Nat) (σ : Nat → Nat) (T : Nat → Nat → Nat) (o n : Nat) (f : Nat → Int32) (x : Nat → Nat) (len : Nat) {N : Nat} (v : Nat) (hO : Ok N σ) (ho : o < 5) (hn : n ≤ 4) (hv1 : v ≤ 1000) (hd : va_D (fun _ => True) (wX G ad σ T o n f x len)) : Met l yX4_set wsX4_set (zRm 4 104) (zPc G [.ref (ad 0 0), .int (nI 1), .int (nI v)] (va_P G.1 vwCl (wX G ad σ T o n f x len))) (zQ (zA (wX G ad σ T o n f x len)) (some (.int (nI (σ 3)))) (va_P G.1 vwCl (wX G ad (su σ 3 v) (upT T ((o + n) % 5) σ) (nO o n) (nN n) f x len))) 0 0 (zA (wX G ad σ T o n f x len)) := by
  refine zmkWi (w := (wX G ad σ T o n f x len)) hd (cc := cX4_set) (maxL := 4) (by decide) rfl (Nat.le_of_ble_eq_true rfl) ?_
  intro pr en st mi ar bl me cd ls Q hx hb hml hown hts hG hP hl hD hS hret
  have hown : st.vm.findClass RX4 = some mi.cls := hown
  have hl : lv_has ls 4 [(0, .ref (ad 0 0)), (1, .int (nI 1)), (2, .int (nI v))] := hl
  have hP : va_P G.1 vwCl (wX G ad σ T o n f x len) st.heap := hP
  have hD : va_D (zA (wX G ad σ T o n f x len)) (wX G ad σ T o n f x len) := hD
  have hinX4 : ∀ w ∈ wsX40, w ∈ wsX4_set := by decide +kernel
  have hf19 := hts (.fieldLink RX4 19 "MapSheets" "history" "LMapSheets$History;") (by decide +kernel)
  have hf10 := hts (.fieldLink RX4 10 "MapSheets" "now" "LMapSheets$Atlas;") (by decide +kernel)
  have hc := hO.c
  have hs := hO.lS
  have hr := hO.lR
  have hne := hO.lE
  have hvw : nI 0 ≤ nI 1 ∧ nI 1 ≤ nI 1 := by decide
  have hvv : nI 0 ≤ nI v ∧ nI v ≤ nI 1000 := z_lem hv1 (by omega)
  refine lv_iload_n hx hb dX4_set_0 rfl (lv_at hl 1 rfl) ?_
  refine lv_iconst (v := nI 0) hx hb dX4_set_1 (by decide) ?_
  refine lv_iconst (v := nI 1) hx hb dX4_set_2 (by decide) ?_
  refine zrdS (As := [.int (nI 1), .int (nI 0), .int (nI 1)]) ⟨hx, hb, hml, hown, hts⟩ (kX4_isWithin l G  (nI 1) (nI 0) (nI 1)) (va_cwS 3 hts gX4_set_X4_isWithin rfl rfl rfl (by decide +kernel) ⟨Nat.le_of_ble_eq_true rfl, Nat.le_of_ble_eq_true rfl⟩) hG (trivial) rfl rfl hl.1 dX4_set_3 (Nat.le_of_ble_eq_true rfl) ⟨Nat.le_of_ble_eq_true rfl, Nat.le_of_ble_eq_true rfl⟩ ?_
  refine lv_if_eq (tgt := 28) hx hb dX4_set_6 (by decide) (fun h6 => ?_) (fun h6 => ?_)
  · skip
    have h6 : ¬ ((nI 0) ≤ (nI 1) ∧ (nI 1) ≤ (nI 1)) := (z_b0).mp h6
    exact absurd hvw h6
  · skip
    have h6 : ¬ (¬ ((nI 0) ≤ (nI 1) ∧ (nI 1) ≤ (nI 1))) := fun q => h6 ((z_b0).mpr q)
    have h6 : (nI 0) ≤ (nI 1) ∧ (nI 1) ≤ (nI 1) := Decidable.of_not_not h6
    refine lv_iload_n hx hb dX4_set_9 rfl (lv_at hl 2 rfl) ?_
    refine lv_iconst (v := nI 0) hx hb dX4_set_10 (by decide) ?_
    refine lv_iload_n hx hb dX4_set_11 rfl (lv_at hl 1 rfl) ?_
    refine lv_if_ne (tgt := 19) hx hb dX4_set_12 (by decide) (fun h12 => ?_) (fun h12 => ?_)
    · skip
      have h12 : ¬ (1 = 0) := fun q => h12 ((z_eq0 (by omega)).mpr q)
      have h12 : 0 < 1 := Nat.pos_of_ne_zero h12
      refine lv_sipush (v := nI 1000) hx hb dX4_set_19 (by decide) ?_
      refine zrdS (As := [.int (nI v), .int (nI 0), .int (nI 1000)]) ⟨hx, hb, hml, hown, hts⟩ (kX4_isWithin l G  (nI v) (nI 0) (nI 1000)) (va_cwS 3 hts gX4_set_X4_isWithin rfl rfl rfl (by decide +kernel) ⟨Nat.le_of_ble_eq_true rfl, Nat.le_of_ble_eq_true rfl⟩) hG (trivial) rfl rfl hl.1 dX4_set_22 (Nat.le_of_ble_eq_true rfl) ⟨Nat.le_of_ble_eq_true rfl, Nat.le_of_ble_eq_true rfl⟩ ?_
      refine lv_if_ne (tgt := 30) hx hb dX4_set_25 (by decide) (fun h25 => ?_) (fun h25 => ?_)
      · skip
        have h25 : ¬ (¬ ((nI 0) ≤ (nI v) ∧ (nI v) ≤ (nI 1000))) := fun q => h25 ((z_b0).mpr q)
        have h25 : (nI 0) ≤ (nI v) ∧ (nI v) ≤ (nI 1000) := Decidable.of_not_not h25
        refine lv_aload_n hx hb dX4_set_30 rfl (lv_at hl 0 rfl) ?_
        refine va_get (D := G.1) (ci := 4) (v := .ref (ad 2 0)) (C := RX4) (T := TX4) (N := 4) hx hb hts hinX4 hown hG.1 hP 0 rfl rfl 1 (by decide) hf19 (fun _ h9 => h9) rfl dX4_set_31 ?_
        refine lv_aload_n hx hb dX4_set_34 rfl (lv_at hl 0 rfl) ?_
        refine va_get (D := G.1) (ci := 4) (v := .ref (ad 1 0)) (C := RX4) (T := TX4) (N := 4) hx hb hts hinX4 hown hG.1 hP 0 rfl rfl 0 (by decide) hf10 (fun _ h9 => h9) rfl dX4_set_35 ?_
        refine zwrEv (G := G) (wc' := (wHo G (ad 2) (aH ad) o n ++ (wTs G (aH ad) (upT T ((o + n) % 5) σ) 5 ++ wA G (ad 1) σ))) (ws' := (wX G ad σ (upT T ((o + n) % 5) σ) o n f x len)) (va_runV (As := [.ref (ad 1 0)]) (rest := []) ⟨hx, hb, hml, hown, hts⟩ (kX2_recordState l G (ad 2) (aH ad) o n T (ad 1) σ (by omega) (by omega) (zD_any (wX_dHA hD))) (cwV 1 hts gX4_set_X2_recordState rfl rfl rfl (by decide +kernel) ⟨Nat.le_of_ble_eq_true rfl, Nat.le_of_ble_eq_true rfl⟩) (zPreV hG (va_recv (q0 := 0) (ci := 2) hG.1 (wX_pH hP) rfl rfl) (wX_pHA hP)) rfl rfl hl.1 rfl (lv_room (Nat.le_of_ble_eq_true rfl)) dX4_set_38 ⟨Nat.le_of_ble_eq_true rfl, Nat.le_of_ble_eq_true rfl⟩) (wX_eHA) (wX_eHA) hP hD hS (wHA_map _ _ _ _ _ _ _ _ _ _ _ _) (fun H locs hP hD hS => ?_)
        have hP : va_P G.1 vwCl (wX G ad σ (upT T ((o + n) % 5) σ) o n f x len) H := hP
        have hD : va_D (zA (wX G ad σ T o n f x len)) (wX G ad σ (upT T ((o + n) % 5) σ) o n f x len) := hD
        refine lv_iload_n hx hb dX4_set_41 rfl (lv_at hl 1 rfl) ?_
        refine lv_if_ne (tgt := 56) hx hb dX4_set_42 (by decide) (fun h42 => ?_) (fun h42 => ?_)
        · skip
          have h42 : ¬ (1 = 0) := fun q => h42 ((z_eq0 (by omega)).mpr q)
          have h42 : 0 < 1 := Nat.pos_of_ne_zero h42
          refine lv_aload_n hx hb dX4_set_56 rfl (lv_at hl 0 rfl) ?_
          refine va_get (D := G.1) (ci := 4) (v := .ref (ad 1 0)) (C := RX4) (T := TX4) (N := 4) hx hb hts hinX4 hown hG.1 hP 0 rfl rfl 0 (by decide) hf10 (fun _ h9 => h9) rfl dX4_set_57 ?_
          refine lv_iload_n hx hb dX4_set_60 rfl (lv_at hl 2 rfl) ?_
          refine zwrE (G := G) (wc' := (wA G (ad 1) (su σ 3 v))) (ws' := (wX G ad (su σ 3 v) (upT T ((o + n) % 5) σ) o n f x len)) (va_runV (As := [.int (nI v)]) (rest := []) ⟨hx, hb, hml, hown, hts⟩ (kX0_putTolerance l G (ad 1) σ v (zD_any (wX_dA hD))) (cwV 1 hts gX4_set_X0_putTolerance rfl rfl rfl (by decide +kernel) ⟨Nat.le_of_ble_eq_true rfl, Nat.le_of_ble_eq_true rfl⟩) (zPreV hG (va_recv (q0 := 0) (ci := 0) hG.1 (wX_pA hP) rfl rfl) ((wX_pA hP))) rfl rfl hl.1 rfl (lv_room (Nat.le_of_ble_eq_true rfl)) dX4_set_61 ⟨Nat.le_of_ble_eq_true rfl, Nat.le_of_ble_eq_true rfl⟩) (wX_eA) (wX_eA) hP hD hS rfl (fun H locs hP hD hS => ?_)
          have hP : va_P G.1 vwCl (wX G ad (su σ 3 v) (upT T ((o + n) % 5) σ) o n f x len) H := hP
          have hD : va_D (zA (wX G ad σ T o n f x len)) (wX G ad (su σ 3 v) (upT T ((o + n) % 5) σ) o n f x len) := hD
          refine lv_istore_n (lv' := [(3, .int (nI (σ 3))), (0, .ref (ad 0 0)), (1, .int (nI 1)), (2, .int (nI v))]) hx hb dX4_set_64 rfl hl (by decide) rfl (fun ls hl => ?_)
          refine lv_aload_n hx hb dX4_set_65 rfl (lv_at hl 1 rfl) ?_
          refine va_get (D := G.1) (ci := 4) (v := .ref (ad 2 0)) (C := RX4) (T := TX4) (N := 4) hx hb hts hinX4 hown hG.1 hP 0 rfl rfl 1 (by decide) hf19 (fun _ h9 => h9) rfl dX4_set_66 ?_
          refine zwrEv (G := G) (wc' := (wHo G (ad 2) (aH ad) (nO o n) (nN n))) (ws' := (wX G ad (su σ 3 v) (upT T ((o + n) % 5) σ) (nO o n) (nN n) f x len)) (va_runV (As := []) (rest := []) ⟨hx, hb, hml, hown, hts⟩ (kX2_keepRecord l G (ad 2) (aH ad) o n (by omega) (by omega) (zD_any (wX_dH hD))) (cwV 0 hts gX4_set_X2_keepRecord rfl rfl rfl (by decide +kernel) ⟨Nat.le_of_ble_eq_true rfl, Nat.le_of_ble_eq_true rfl⟩) (zPreV hG (va_recv (q0 := 0) (ci := 2) hG.1 (wX_pH hP) rfl rfl) (wX_pH hP)) rfl rfl hl.1 rfl (lv_room (Nat.le_of_ble_eq_true rfl)) dX4_set_69 ⟨Nat.le_of_ble_eq_true rfl, Nat.le_of_ble_eq_true rfl⟩) (wX_eH) (wX_eH) hP hD hS rfl (fun H locs hP hD hS => ?_)
          have hP : va_P G.1 vwCl (wX G ad (su σ 3 v) (upT T ((o + n) % 5) σ) (nO o n) (nN n) f x len) H := hP
          have hD : va_D (zA (wX G ad σ T o n f x len)) (wX G ad (su σ 3 v) (upT T ((o + n) % 5) σ) (nO o n) (nN n) f x len) := hD
          refine lv_iload_n hx hb dX4_set_72 rfl (lv_at hl 0 rfl) ?_
          exact hret _ _ _ _ _ dX4_set_73 hS (hP) (congrArg nI (rfl))
        · skip
          have h42 : 1 = 0 := (z_eq0 (by omega)).mp h42
          exfalso; omega
      · skip
        have h25 : ¬ ((nI 0) ≤ (nI v) ∧ (nI v) ≤ (nI 1000)) := (z_b0).mp h25
        exact absurd hvv h25
    · skip
      have h12 : 1 = 0 := (z_eq0 (by omega)).mp h12
      exfalso; omega
set_option maxHeartbeats 4000000 in
set_option maxRecDepth 100000 in
theorem kX4_sheet_inv (l : Launch) (G : zG) (ad : Nat → Nat → Nat) (σ : Nat → Nat) (T : Nat → Nat → Nat) (o n : Nat) (f : Nat → Int32) (x : Nat → Nat) (len : Nat) {N : Nat} (x1 : Int32) (x2 : Int32) (hO : Ok N σ) (ho : o < 5) (hn : n ≤ 4) (hv : ¬ (0 ≤ x1 ∧ x1 < nI (nS σ))) (hd : va_D (fun _ => True) (wX G ad σ T o n f x len)) : Met l yX4_sheet wsX4_sheet (zRm 4 85) (zPc G [.ref (ad 0 0), .int x1, .int x2] (va_P G.1 vwCl (wX G ad σ T o n f x len))) (zQ (zA (wX G ad σ T o n f x len)) (some (.int ((-1)))) (va_P G.1 vwCl (wX G ad σ T o n f x len))) 0 0 (zA (wX G ad σ T o n f x len)) := by
  refine zmkWi (w := (wX G ad σ T o n f x len)) hd (cc := cX4_sheet) (maxL := 3) (by decide) rfl (Nat.le_of_ble_eq_true rfl) ?_
  intro pr en st mi ar bl me cd ls Q hx hb hml hown hts hG hP hl hD hS hret
  have hown : st.vm.findClass RX4 = some mi.cls := hown
  have hl : lv_has ls 3 [(0, .ref (ad 0 0)), (1, .int x1), (2, .int x2)] := hl
  have hP : va_P G.1 vwCl (wX G ad σ T o n f x len) st.heap := hP
  have hD : va_D (zA (wX G ad σ T o n f x len)) (wX G ad σ T o n f x len) := hD
  have hinX4 : ∀ w ∈ wsX40, w ∈ wsX4_sheet := by decide +kernel
  have hf10 := hts (.fieldLink RX4 10 "MapSheets" "now" "LMapSheets$Atlas;") (by decide +kernel)
  have hc := hO.c
  have hs := hO.lS
  have hr := hO.lR
  have hne := hO.lE
  refine lv_aload_n hx hb dX4_sheet_0 rfl (lv_at hl 0 rfl) ?_
  refine va_get (D := G.1) (ci := 4) (v := .ref (ad 1 0)) (C := RX4) (T := TX4) (N := 4) hx hb hts hinX4 hown hG.1 hP 0 rfl rfl 0 (by decide) hf10 (fun _ h9 => h9) rfl dX4_sheet_1 ?_
  refine lv_iload_n hx hb dX4_sheet_4 rfl (lv_at hl 1 rfl) ?_
  refine zrdV (As := [.int x1]) ⟨hx, hb, hml, hown, hts⟩ (kX0_hasSheet l G (ad 1) σ x1) (cwV 1 hts gX4_sheet_X0_hasSheet rfl rfl rfl (by decide +kernel) ⟨Nat.le_of_ble_eq_true rfl, Nat.le_of_ble_eq_true rfl⟩) hG (va_recv (q0 := 0) (ci := 0) hG.1 (wX_pA hP) rfl rfl) ((wX_pA hP)) rfl rfl hl.1 dX4_sheet_5 (Nat.le_of_ble_eq_true rfl) ⟨Nat.le_of_ble_eq_true rfl, Nat.le_of_ble_eq_true rfl⟩ ?_
  refine lv_if_ne (tgt := 13) hx hb dX4_sheet_8 (by decide) (fun h8 => ?_) (fun h8 => ?_)
  · skip
    have h8 : ¬ (¬ (0 ≤ x1 ∧ x1 < nI (nS σ))) := fun q => h8 ((z_b0).mpr q)
    have h8 : 0 ≤ x1 ∧ x1 < nI (nS σ) := Decidable.of_not_not h8
    exact absurd h8 hv
  · skip
    have h8 : ¬ (0 ≤ x1 ∧ x1 < nI (nS σ)) := (z_b0).mp h8
    refine lv_iconst (v := (-1)) hx hb dX4_sheet_11 (by decide) ?_
    exact hret _ _ _ _ _ dX4_sheet_12 hS (hP) (rfl)
set_option maxHeartbeats 4000000 in
set_option maxRecDepth 100000 in
theorem kX4_sheet_what (l : Launch) (G : zG) (ad : Nat → Nat → Nat) (σ : Nat → Nat) (T : Nat → Nat → Nat) (o n : Nat) (f : Nat → Int32) (x : Nat → Nat) (len : Nat) {N : Nat} (k : Nat) (x2 : Int32) (hO : Ok N σ) (ho : o < 5) (hn : n ≤ 4) (hk : k < nS σ) (hv : ¬ (nI 0 ≤ x2 ∧ x2 ≤ nI 9)) (hd : va_D (fun _ => True) (wX G ad σ T o n f x len)) : Met l yX4_sheet wsX4_sheet (zRm 4 85) (zPc G [.ref (ad 0 0), .int (nI k), .int x2] (va_P G.1 vwCl (wX G ad σ T o n f x len))) (zQ (zA (wX G ad σ T o n f x len)) (some (.int ((-1)))) (va_P G.1 vwCl (wX G ad σ T o n f x len))) 0 0 (zA (wX G ad σ T o n f x len)) := by
  refine zmkWi (w := (wX G ad σ T o n f x len)) hd (cc := cX4_sheet) (maxL := 3) (by decide) rfl (Nat.le_of_ble_eq_true rfl) ?_
  intro pr en st mi ar bl me cd ls Q hx hb hml hown hts hG hP hl hD hS hret
  have hown : st.vm.findClass RX4 = some mi.cls := hown
  have hl : lv_has ls 3 [(0, .ref (ad 0 0)), (1, .int (nI k)), (2, .int x2)] := hl
  have hP : va_P G.1 vwCl (wX G ad σ T o n f x len) st.heap := hP
  have hD : va_D (zA (wX G ad σ T o n f x len)) (wX G ad σ T o n f x len) := hD
  have hinX4 : ∀ w ∈ wsX40, w ∈ wsX4_sheet := by decide +kernel
  have hf10 := hts (.fieldLink RX4 10 "MapSheets" "now" "LMapSheets$Atlas;") (by decide +kernel)
  have hc := hO.c
  have hs := hO.lS
  have hr := hO.lR
  have hne := hO.lE
  have hvs : 0 ≤ nI k ∧ nI k < nI (nS σ) := z_in hk (by omega)
  refine lv_aload_n hx hb dX4_sheet_0 rfl (lv_at hl 0 rfl) ?_
  refine va_get (D := G.1) (ci := 4) (v := .ref (ad 1 0)) (C := RX4) (T := TX4) (N := 4) hx hb hts hinX4 hown hG.1 hP 0 rfl rfl 0 (by decide) hf10 (fun _ h9 => h9) rfl dX4_sheet_1 ?_
  refine lv_iload_n hx hb dX4_sheet_4 rfl (lv_at hl 1 rfl) ?_
  refine zrdV (As := [.int (nI k)]) ⟨hx, hb, hml, hown, hts⟩ (kX0_hasSheet l G (ad 1) σ (nI k)) (cwV 1 hts gX4_sheet_X0_hasSheet rfl rfl rfl (by decide +kernel) ⟨Nat.le_of_ble_eq_true rfl, Nat.le_of_ble_eq_true rfl⟩) hG (va_recv (q0 := 0) (ci := 0) hG.1 (wX_pA hP) rfl rfl) ((wX_pA hP)) rfl rfl hl.1 dX4_sheet_5 (Nat.le_of_ble_eq_true rfl) ⟨Nat.le_of_ble_eq_true rfl, Nat.le_of_ble_eq_true rfl⟩ ?_
  refine lv_if_ne (tgt := 13) hx hb dX4_sheet_8 (by decide) (fun h8 => ?_) (fun h8 => ?_)
  · skip
    have h8 : ¬ (¬ (0 ≤ (nI k) ∧ (nI k) < nI (nS σ))) := fun q => h8 ((z_b0).mpr q)
    have h8 : 0 ≤ (nI k) ∧ (nI k) < nI (nS σ) := Decidable.of_not_not h8
    refine lv_iload_n hx hb dX4_sheet_13 rfl (lv_at hl 2 rfl) ?_
    refine lv_tableOut (tgt := 194) hx hb dX4_sheet_14 (z_out (h := 9) (by decide) hv) (by decide) ?_
    refine lv_iconst (v := (-1)) hx hb dX4_sheet_194 (by decide) ?_
    exact hret _ _ _ _ _ dX4_sheet_195 hS (hP) (rfl)
  · skip
    have h8 : ¬ (0 ≤ (nI k) ∧ (nI k) < nI (nS σ)) := (z_b0).mp h8
    exact absurd hvs h8
set_option maxHeartbeats 4000000 in
set_option maxRecDepth 100000 in
theorem kX4_sheet_0 (l : Launch) (G : zG) (ad : Nat → Nat → Nat) (σ : Nat → Nat) (T : Nat → Nat → Nat) (o n : Nat) (f : Nat → Int32) (x : Nat → Nat) (len : Nat) {N : Nat} (k : Nat) (hO : Ok N σ) (ho : o < 5) (hn : n ≤ 4) (hk : k < nS σ) (hd : va_D (fun _ => True) (wX G ad σ T o n f x len)) : Met l yX4_sheet wsX4_sheet (zRm 4 85) (zPc G [.ref (ad 0 0), .int (nI k), .int (nI 0)] (va_P G.1 vwCl (wX G ad σ T o n f x len))) (zQ (zA (wX G ad σ T o n f x len)) (some (.int (nI (k % σ 0)))) (va_P G.1 vwCl (wX G ad σ T o n f x len))) 0 0 (zA (wX G ad σ T o n f x len)) := by
  refine zmkWi (w := (wX G ad σ T o n f x len)) hd (cc := cX4_sheet) (maxL := 3) (by decide) rfl (Nat.le_of_ble_eq_true rfl) ?_
  intro pr en st mi ar bl me cd ls Q hx hb hml hown hts hG hP hl hD hS hret
  have hown : st.vm.findClass RX4 = some mi.cls := hown
  have hl : lv_has ls 3 [(0, .ref (ad 0 0)), (1, .int (nI k)), (2, .int (nI 0))] := hl
  have hP : va_P G.1 vwCl (wX G ad σ T o n f x len) st.heap := hP
  have hD : va_D (zA (wX G ad σ T o n f x len)) (wX G ad σ T o n f x len) := hD
  have hinX4 : ∀ w ∈ wsX40, w ∈ wsX4_sheet := by decide +kernel
  have hf10 := hts (.fieldLink RX4 10 "MapSheets" "now" "LMapSheets$Atlas;") (by decide +kernel)
  have hc := hO.c
  have hs := hO.lS
  have hr := hO.lR
  have hne := hO.lE
  have hvs : 0 ≤ nI k ∧ nI k < nI (nS σ) := z_in hk (by omega)
  refine lv_aload_n hx hb dX4_sheet_0 rfl (lv_at hl 0 rfl) ?_
  refine va_get (D := G.1) (ci := 4) (v := .ref (ad 1 0)) (C := RX4) (T := TX4) (N := 4) hx hb hts hinX4 hown hG.1 hP 0 rfl rfl 0 (by decide) hf10 (fun _ h9 => h9) rfl dX4_sheet_1 ?_
  refine lv_iload_n hx hb dX4_sheet_4 rfl (lv_at hl 1 rfl) ?_
  refine zrdV (As := [.int (nI k)]) ⟨hx, hb, hml, hown, hts⟩ (kX0_hasSheet l G (ad 1) σ (nI k)) (cwV 1 hts gX4_sheet_X0_hasSheet rfl rfl rfl (by decide +kernel) ⟨Nat.le_of_ble_eq_true rfl, Nat.le_of_ble_eq_true rfl⟩) hG (va_recv (q0 := 0) (ci := 0) hG.1 (wX_pA hP) rfl rfl) ((wX_pA hP)) rfl rfl hl.1 dX4_sheet_5 (Nat.le_of_ble_eq_true rfl) ⟨Nat.le_of_ble_eq_true rfl, Nat.le_of_ble_eq_true rfl⟩ ?_
  refine lv_if_ne (tgt := 13) hx hb dX4_sheet_8 (by decide) (fun h8 => ?_) (fun h8 => ?_)
  · skip
    have h8 : ¬ (¬ (0 ≤ (nI k) ∧ (nI k) < nI (nS σ))) := fun q => h8 ((z_b0).mpr q)
    have h8 : 0 ≤ (nI k) ∧ (nI k) < nI (nS σ) := Decidable.of_not_not h8
    refine lv_iload_n hx hb dX4_sheet_13 rfl (lv_at hl 2 rfl) ?_
    refine lv_tableIn (off := 54) (tgt := 68) hx hb dX4_sheet_14 (by decide) (by decide) (by decide) (by decide) ?_
    refine lv_aload_n hx hb dX4_sheet_68 rfl (lv_at hl 0 rfl) ?_
    refine va_get (D := G.1) (ci := 4) (v := .ref (ad 1 0)) (C := RX4) (T := TX4) (N := 4) hx hb hts hinX4 hown hG.1 hP 0 rfl rfl 0 (by decide) hf10 (fun _ h9 => h9) rfl dX4_sheet_69 ?_
    refine lv_iload_n hx hb dX4_sheet_72 rfl (lv_at hl 1 rfl) ?_
    refine zrdV (As := [.int (nI k)]) ⟨hx, hb, hml, hown, hts⟩ (kX0_columnOf l G (ad 1) σ k (hO) (by omega)) (cwV 1 hts gX4_sheet_X0_columnOf rfl rfl rfl (by decide +kernel) ⟨Nat.le_of_ble_eq_true rfl, Nat.le_of_ble_eq_true rfl⟩) hG (va_recv (q0 := 0) (ci := 0) hG.1 (wX_pA hP) rfl rfl) ((wX_pA hP)) rfl rfl hl.1 dX4_sheet_73 (Nat.le_of_ble_eq_true rfl) ⟨Nat.le_of_ble_eq_true rfl, Nat.le_of_ble_eq_true rfl⟩ ?_
    have hf73_0 := Nat.mod_lt (k) (show σ 0 > 0 by omega)
    exact hret _ _ _ _ _ dX4_sheet_76 hS (hP) (congrArg nI (rfl))
  · skip
    have h8 : ¬ (0 ≤ (nI k) ∧ (nI k) < nI (nS σ)) := (z_b0).mp h8
    exact absurd hvs h8
set_option maxHeartbeats 4000000 in
set_option maxRecDepth 100000 in
theorem kX4_sheet_1 (l : Launch) (G : zG) (ad : Nat → Nat → Nat) (σ : Nat → Nat) (T : Nat → Nat → Nat) (o n : Nat) (f : Nat → Int32) (x : Nat → Nat) (len : Nat) {N : Nat} (k : Nat) (hO : Ok N σ) (ho : o < 5) (hn : n ≤ 4) (hk : k < nS σ) (hd : va_D (fun _ => True) (wX G ad σ T o n f x len)) : Met l yX4_sheet wsX4_sheet (zRm 4 85) (zPc G [.ref (ad 0 0), .int (nI k), .int (nI 1)] (va_P G.1 vwCl (wX G ad σ T o n f x len))) (zQ (zA (wX G ad σ T o n f x len)) (some (.int (nI (k / σ 0)))) (va_P G.1 vwCl (wX G ad σ T o n f x len))) 0 0 (zA (wX G ad σ T o n f x len)) := by
  refine zmkWi (w := (wX G ad σ T o n f x len)) hd (cc := cX4_sheet) (maxL := 3) (by decide) rfl (Nat.le_of_ble_eq_true rfl) ?_
  intro pr en st mi ar bl me cd ls Q hx hb hml hown hts hG hP hl hD hS hret
  have hown : st.vm.findClass RX4 = some mi.cls := hown
  have hl : lv_has ls 3 [(0, .ref (ad 0 0)), (1, .int (nI k)), (2, .int (nI 1))] := hl
  have hP : va_P G.1 vwCl (wX G ad σ T o n f x len) st.heap := hP
  have hD : va_D (zA (wX G ad σ T o n f x len)) (wX G ad σ T o n f x len) := hD
  have hinX4 : ∀ w ∈ wsX40, w ∈ wsX4_sheet := by decide +kernel
  have hf10 := hts (.fieldLink RX4 10 "MapSheets" "now" "LMapSheets$Atlas;") (by decide +kernel)
  have hc := hO.c
  have hs := hO.lS
  have hr := hO.lR
  have hne := hO.lE
  have hvs : 0 ≤ nI k ∧ nI k < nI (nS σ) := z_in hk (by omega)
  refine lv_aload_n hx hb dX4_sheet_0 rfl (lv_at hl 0 rfl) ?_
  refine va_get (D := G.1) (ci := 4) (v := .ref (ad 1 0)) (C := RX4) (T := TX4) (N := 4) hx hb hts hinX4 hown hG.1 hP 0 rfl rfl 0 (by decide) hf10 (fun _ h9 => h9) rfl dX4_sheet_1 ?_
  refine lv_iload_n hx hb dX4_sheet_4 rfl (lv_at hl 1 rfl) ?_
  refine zrdV (As := [.int (nI k)]) ⟨hx, hb, hml, hown, hts⟩ (kX0_hasSheet l G (ad 1) σ (nI k)) (cwV 1 hts gX4_sheet_X0_hasSheet rfl rfl rfl (by decide +kernel) ⟨Nat.le_of_ble_eq_true rfl, Nat.le_of_ble_eq_true rfl⟩) hG (va_recv (q0 := 0) (ci := 0) hG.1 (wX_pA hP) rfl rfl) ((wX_pA hP)) rfl rfl hl.1 dX4_sheet_5 (Nat.le_of_ble_eq_true rfl) ⟨Nat.le_of_ble_eq_true rfl, Nat.le_of_ble_eq_true rfl⟩ ?_
  refine lv_if_ne (tgt := 13) hx hb dX4_sheet_8 (by decide) (fun h8 => ?_) (fun h8 => ?_)
  · skip
    have h8 : ¬ (¬ (0 ≤ (nI k) ∧ (nI k) < nI (nS σ))) := fun q => h8 ((z_b0).mpr q)
    have h8 : 0 ≤ (nI k) ∧ (nI k) < nI (nS σ) := Decidable.of_not_not h8
    refine lv_iload_n hx hb dX4_sheet_13 rfl (lv_at hl 2 rfl) ?_
    refine lv_tableIn (off := 63) (tgt := 77) hx hb dX4_sheet_14 (by decide) (by decide) (by decide) (by decide) ?_
    refine lv_aload_n hx hb dX4_sheet_77 rfl (lv_at hl 0 rfl) ?_
    refine va_get (D := G.1) (ci := 4) (v := .ref (ad 1 0)) (C := RX4) (T := TX4) (N := 4) hx hb hts hinX4 hown hG.1 hP 0 rfl rfl 0 (by decide) hf10 (fun _ h9 => h9) rfl dX4_sheet_78 ?_
    refine lv_iload_n hx hb dX4_sheet_81 rfl (lv_at hl 1 rfl) ?_
    refine zrdV (As := [.int (nI k)]) ⟨hx, hb, hml, hown, hts⟩ (kX0_rowOf l G (ad 1) σ k (hO) (by omega)) (cwV 1 hts gX4_sheet_X0_rowOf rfl rfl rfl (by decide +kernel) ⟨Nat.le_of_ble_eq_true rfl, Nat.le_of_ble_eq_true rfl⟩) hG (va_recv (q0 := 0) (ci := 0) hG.1 (wX_pA hP) rfl rfl) ((wX_pA hP)) rfl rfl hl.1 dX4_sheet_82 (Nat.le_of_ble_eq_true rfl) ⟨Nat.le_of_ble_eq_true rfl, Nat.le_of_ble_eq_true rfl⟩ ?_
    have hf82_0 := Nat.div_le_self (k) (σ 0)
    exact hret _ _ _ _ _ dX4_sheet_85 hS (hP) (congrArg nI (rfl))
  · skip
    have h8 : ¬ (0 ≤ (nI k) ∧ (nI k) < nI (nS σ)) := (z_b0).mp h8
    exact absurd hvs h8
set_option maxHeartbeats 4000000 in
set_option maxRecDepth 100000 in
theorem kX4_sheet_2 (l : Launch) (G : zG) (ad : Nat → Nat → Nat) (σ : Nat → Nat) (T : Nat → Nat → Nat) (o n : Nat) (f : Nat → Int32) (x : Nat → Nat) (len : Nat) {N : Nat} (k : Nat) (hO : Ok N σ) (ho : o < 5) (hn : n ≤ 4) (hk : k < nS σ) (hd : va_D (fun _ => True) (wX G ad σ T o n f x len)) : Met l yX4_sheet wsX4_sheet (zRm 4 85) (zPc G [.ref (ad 0 0), .int (nI k), .int (nI 2)] (va_P G.1 vwCl (wX G ad σ T o n f x len))) (zQ (zA (wX G ad σ T o n f x len)) (some (.int (nI (nEd σ k)))) (va_P G.1 vwCl (wX G ad σ T o n f x len))) 0 0 (zA (wX G ad σ T o n f x len)) := by
  refine zmkWi (w := (wX G ad σ T o n f x len)) hd (cc := cX4_sheet) (maxL := 3) (by decide) rfl (Nat.le_of_ble_eq_true rfl) ?_
  intro pr en st mi ar bl me cd ls Q hx hb hml hown hts hG hP hl hD hS hret
  have hown : st.vm.findClass RX4 = some mi.cls := hown
  have hl : lv_has ls 3 [(0, .ref (ad 0 0)), (1, .int (nI k)), (2, .int (nI 2))] := hl
  have hP : va_P G.1 vwCl (wX G ad σ T o n f x len) st.heap := hP
  have hD : va_D (zA (wX G ad σ T o n f x len)) (wX G ad σ T o n f x len) := hD
  have hinX4 : ∀ w ∈ wsX40, w ∈ wsX4_sheet := by decide +kernel
  have hf10 := hts (.fieldLink RX4 10 "MapSheets" "now" "LMapSheets$Atlas;") (by decide +kernel)
  have hc := hO.c
  have hs := hO.lS
  have hr := hO.lR
  have hne := hO.lE
  have hvs : 0 ≤ nI k ∧ nI k < nI (nS σ) := z_in hk (by omega)
  refine lv_aload_n hx hb dX4_sheet_0 rfl (lv_at hl 0 rfl) ?_
  refine va_get (D := G.1) (ci := 4) (v := .ref (ad 1 0)) (C := RX4) (T := TX4) (N := 4) hx hb hts hinX4 hown hG.1 hP 0 rfl rfl 0 (by decide) hf10 (fun _ h9 => h9) rfl dX4_sheet_1 ?_
  refine lv_iload_n hx hb dX4_sheet_4 rfl (lv_at hl 1 rfl) ?_
  refine zrdV (As := [.int (nI k)]) ⟨hx, hb, hml, hown, hts⟩ (kX0_hasSheet l G (ad 1) σ (nI k)) (cwV 1 hts gX4_sheet_X0_hasSheet rfl rfl rfl (by decide +kernel) ⟨Nat.le_of_ble_eq_true rfl, Nat.le_of_ble_eq_true rfl⟩) hG (va_recv (q0 := 0) (ci := 0) hG.1 (wX_pA hP) rfl rfl) ((wX_pA hP)) rfl rfl hl.1 dX4_sheet_5 (Nat.le_of_ble_eq_true rfl) ⟨Nat.le_of_ble_eq_true rfl, Nat.le_of_ble_eq_true rfl⟩ ?_
  refine lv_if_ne (tgt := 13) hx hb dX4_sheet_8 (by decide) (fun h8 => ?_) (fun h8 => ?_)
  · skip
    have h8 : ¬ (¬ (0 ≤ (nI k) ∧ (nI k) < nI (nS σ))) := fun q => h8 ((z_b0).mpr q)
    have h8 : 0 ≤ (nI k) ∧ (nI k) < nI (nS σ) := Decidable.of_not_not h8
    refine lv_iload_n hx hb dX4_sheet_13 rfl (lv_at hl 2 rfl) ?_
    refine lv_tableIn (off := 72) (tgt := 86) hx hb dX4_sheet_14 (by decide) (by decide) (by decide) (by decide) ?_
    refine lv_aload_n hx hb dX4_sheet_86 rfl (lv_at hl 0 rfl) ?_
    refine va_get (D := G.1) (ci := 4) (v := .ref (ad 1 0)) (C := RX4) (T := TX4) (N := 4) hx hb hts hinX4 hown hG.1 hP 0 rfl rfl 0 (by decide) hf10 (fun _ h9 => h9) rfl dX4_sheet_87 ?_
    refine lv_iload_n hx hb dX4_sheet_90 rfl (lv_at hl 1 rfl) ?_
    refine zrdV (As := [.int (nI k)]) ⟨hx, hb, hml, hown, hts⟩ (kX0_edgesOf l G (ad 1) σ k (hO) (by omega)) (cwV 1 hts gX4_sheet_X0_edgesOf rfl rfl rfl (by decide +kernel) ⟨Nat.le_of_ble_eq_true rfl, Nat.le_of_ble_eq_true rfl⟩) hG (va_recv (q0 := 0) (ci := 0) hG.1 (wX_pA hP) rfl rfl) ((wX_pA hP)) rfl rfl hl.1 dX4_sheet_91 (Nat.le_of_ble_eq_true rfl) ⟨Nat.le_of_ble_eq_true rfl, Nat.le_of_ble_eq_true rfl⟩ ?_
    have hf91_0 := nEd_le σ (k)
    exact hret _ _ _ _ _ dX4_sheet_94 hS (hP) (congrArg nI (rfl))
  · skip
    have h8 : ¬ (0 ≤ (nI k) ∧ (nI k) < nI (nS σ)) := (z_b0).mp h8
    exact absurd hvs h8
set_option maxHeartbeats 4000000 in
set_option maxRecDepth 100000 in
theorem kX4_sheet_3 (l : Launch) (G : zG) (ad : Nat → Nat → Nat) (σ : Nat → Nat) (T : Nat → Nat → Nat) (o n : Nat) (f : Nat → Int32) (x : Nat → Nat) (len : Nat) {N : Nat} (k : Nat) (hO : Ok N σ) (ho : o < 5) (hn : n ≤ 4) (hk : k < nS σ) (hd : va_D (fun _ => True) (wX G ad σ T o n f x len)) : Met l yX4_sheet wsX4_sheet (zRm 4 85) (zPc G [.ref (ad 0 0), .int (nI k), .int (nI 3)] (va_P G.1 vwCl (wX G ad σ T o n f x len))) (zQ (zA (wX G ad σ T o n f x len)) (some (.int (nI (nAd σ k)))) (va_P G.1 vwCl (wX G ad σ T o n f x len))) 0 0 (zA (wX G ad σ T o n f x len)) := by
  refine zmkWi (w := (wX G ad σ T o n f x len)) hd (cc := cX4_sheet) (maxL := 3) (by decide) rfl (Nat.le_of_ble_eq_true rfl) ?_
  intro pr en st mi ar bl me cd ls Q hx hb hml hown hts hG hP hl hD hS hret
  have hown : st.vm.findClass RX4 = some mi.cls := hown
  have hl : lv_has ls 3 [(0, .ref (ad 0 0)), (1, .int (nI k)), (2, .int (nI 3))] := hl
  have hP : va_P G.1 vwCl (wX G ad σ T o n f x len) st.heap := hP
  have hD : va_D (zA (wX G ad σ T o n f x len)) (wX G ad σ T o n f x len) := hD
  have hinX4 : ∀ w ∈ wsX40, w ∈ wsX4_sheet := by decide +kernel
  have hf10 := hts (.fieldLink RX4 10 "MapSheets" "now" "LMapSheets$Atlas;") (by decide +kernel)
  have hc := hO.c
  have hs := hO.lS
  have hr := hO.lR
  have hne := hO.lE
  have hvs : 0 ≤ nI k ∧ nI k < nI (nS σ) := z_in hk (by omega)
  refine lv_aload_n hx hb dX4_sheet_0 rfl (lv_at hl 0 rfl) ?_
  refine va_get (D := G.1) (ci := 4) (v := .ref (ad 1 0)) (C := RX4) (T := TX4) (N := 4) hx hb hts hinX4 hown hG.1 hP 0 rfl rfl 0 (by decide) hf10 (fun _ h9 => h9) rfl dX4_sheet_1 ?_
  refine lv_iload_n hx hb dX4_sheet_4 rfl (lv_at hl 1 rfl) ?_
  refine zrdV (As := [.int (nI k)]) ⟨hx, hb, hml, hown, hts⟩ (kX0_hasSheet l G (ad 1) σ (nI k)) (cwV 1 hts gX4_sheet_X0_hasSheet rfl rfl rfl (by decide +kernel) ⟨Nat.le_of_ble_eq_true rfl, Nat.le_of_ble_eq_true rfl⟩) hG (va_recv (q0 := 0) (ci := 0) hG.1 (wX_pA hP) rfl rfl) ((wX_pA hP)) rfl rfl hl.1 dX4_sheet_5 (Nat.le_of_ble_eq_true rfl) ⟨Nat.le_of_ble_eq_true rfl, Nat.le_of_ble_eq_true rfl⟩ ?_
  refine lv_if_ne (tgt := 13) hx hb dX4_sheet_8 (by decide) (fun h8 => ?_) (fun h8 => ?_)
  · skip
    have h8 : ¬ (¬ (0 ≤ (nI k) ∧ (nI k) < nI (nS σ))) := fun q => h8 ((z_b0).mpr q)
    have h8 : 0 ≤ (nI k) ∧ (nI k) < nI (nS σ) := Decidable.of_not_not h8
    refine lv_iload_n hx hb dX4_sheet_13 rfl (lv_at hl 2 rfl) ?_
    refine lv_tableIn (off := 81) (tgt := 95) hx hb dX4_sheet_14 (by decide) (by decide) (by decide) (by decide) ?_
    refine lv_aload_n hx hb dX4_sheet_95 rfl (lv_at hl 0 rfl) ?_
    refine va_get (D := G.1) (ci := 4) (v := .ref (ad 1 0)) (C := RX4) (T := TX4) (N := 4) hx hb hts hinX4 hown hG.1 hP 0 rfl rfl 0 (by decide) hf10 (fun _ h9 => h9) rfl dX4_sheet_96 ?_
    refine lv_iload_n hx hb dX4_sheet_99 rfl (lv_at hl 1 rfl) ?_
    refine zrdV (As := [.int (nI k)]) ⟨hx, hb, hml, hown, hts⟩ (kX0_agreedEdgesOf l G (ad 1) σ k (hO) (by omega)) (cwV 1 hts gX4_sheet_X0_agreedEdgesOf rfl rfl rfl (by decide +kernel) ⟨Nat.le_of_ble_eq_true rfl, Nat.le_of_ble_eq_true rfl⟩) hG (va_recv (q0 := 0) (ci := 0) hG.1 (wX_pA hP) rfl rfl) ((wX_pA hP)) rfl rfl hl.1 dX4_sheet_100 (Nat.le_of_ble_eq_true rfl) ⟨Nat.le_of_ble_eq_true rfl, Nat.le_of_ble_eq_true rfl⟩ ?_
    have hf100_0 := nAd_le σ (k)
    exact hret _ _ _ _ _ dX4_sheet_103 hS (hP) (congrArg nI (rfl))
  · skip
    have h8 : ¬ (0 ≤ (nI k) ∧ (nI k) < nI (nS σ)) := (z_b0).mp h8
    exact absurd hvs h8
set_option maxHeartbeats 4000000 in
set_option maxRecDepth 100000 in
theorem kX4_sheet_4 (l : Launch) (G : zG) (ad : Nat → Nat → Nat) (σ : Nat → Nat) (T : Nat → Nat → Nat) (o n : Nat) (f : Nat → Int32) (x : Nat → Nat) (len : Nat) {N : Nat} (k : Nat) (hO : Ok N σ) (ho : o < 5) (hn : n ≤ 4) (hk : k < nS σ) (hd : va_D (fun _ => True) (wX G ad σ T o n f x len)) : Met l yX4_sheet wsX4_sheet (zRm 4 85) (zPc G [.ref (ad 0 0), .int (nI k), .int (nI 4)] (va_P G.1 vwCl (wX G ad σ T o n f x len))) (zQ (zA (wX G ad σ T o n f x len)) (some (.int (nI (rvn σ k)))) (va_P G.1 vwCl (wX G ad σ T o n f x len))) 0 0 (zA (wX G ad σ T o n f x len)) := by
  refine zmkWi (w := (wX G ad σ T o n f x len)) hd (cc := cX4_sheet) (maxL := 3) (by decide) rfl (Nat.le_of_ble_eq_true rfl) ?_
  intro pr en st mi ar bl me cd ls Q hx hb hml hown hts hG hP hl hD hS hret
  have hown : st.vm.findClass RX4 = some mi.cls := hown
  have hl : lv_has ls 3 [(0, .ref (ad 0 0)), (1, .int (nI k)), (2, .int (nI 4))] := hl
  have hP : va_P G.1 vwCl (wX G ad σ T o n f x len) st.heap := hP
  have hD : va_D (zA (wX G ad σ T o n f x len)) (wX G ad σ T o n f x len) := hD
  have hinX4 : ∀ w ∈ wsX40, w ∈ wsX4_sheet := by decide +kernel
  have hf10 := hts (.fieldLink RX4 10 "MapSheets" "now" "LMapSheets$Atlas;") (by decide +kernel)
  have hc := hO.c
  have hs := hO.lS
  have hr := hO.lR
  have hne := hO.lE
  have hvs : 0 ≤ nI k ∧ nI k < nI (nS σ) := z_in hk (by omega)
  refine lv_aload_n hx hb dX4_sheet_0 rfl (lv_at hl 0 rfl) ?_
  refine va_get (D := G.1) (ci := 4) (v := .ref (ad 1 0)) (C := RX4) (T := TX4) (N := 4) hx hb hts hinX4 hown hG.1 hP 0 rfl rfl 0 (by decide) hf10 (fun _ h9 => h9) rfl dX4_sheet_1 ?_
  refine lv_iload_n hx hb dX4_sheet_4 rfl (lv_at hl 1 rfl) ?_
  refine zrdV (As := [.int (nI k)]) ⟨hx, hb, hml, hown, hts⟩ (kX0_hasSheet l G (ad 1) σ (nI k)) (cwV 1 hts gX4_sheet_X0_hasSheet rfl rfl rfl (by decide +kernel) ⟨Nat.le_of_ble_eq_true rfl, Nat.le_of_ble_eq_true rfl⟩) hG (va_recv (q0 := 0) (ci := 0) hG.1 (wX_pA hP) rfl rfl) ((wX_pA hP)) rfl rfl hl.1 dX4_sheet_5 (Nat.le_of_ble_eq_true rfl) ⟨Nat.le_of_ble_eq_true rfl, Nat.le_of_ble_eq_true rfl⟩ ?_
  refine lv_if_ne (tgt := 13) hx hb dX4_sheet_8 (by decide) (fun h8 => ?_) (fun h8 => ?_)
  · skip
    have h8 : ¬ (¬ (0 ≤ (nI k) ∧ (nI k) < nI (nS σ))) := fun q => h8 ((z_b0).mpr q)
    have h8 : 0 ≤ (nI k) ∧ (nI k) < nI (nS σ) := Decidable.of_not_not h8
    refine lv_iload_n hx hb dX4_sheet_13 rfl (lv_at hl 2 rfl) ?_
    refine lv_tableIn (off := 90) (tgt := 104) hx hb dX4_sheet_14 (by decide) (by decide) (by decide) (by decide) ?_
    refine lv_aload_n hx hb dX4_sheet_104 rfl (lv_at hl 0 rfl) ?_
    refine va_get (D := G.1) (ci := 4) (v := .ref (ad 1 0)) (C := RX4) (T := TX4) (N := 4) hx hb hts hinX4 hown hG.1 hP 0 rfl rfl 0 (by decide) hf10 (fun _ h9 => h9) rfl dX4_sheet_105 ?_
    refine lv_iload_n hx hb dX4_sheet_108 rfl (lv_at hl 1 rfl) ?_
    refine zrdV (As := [.int (nI k)]) ⟨hx, hb, hml, hown, hts⟩ (kX0_revisionOf l G (ad 1) σ k (hO) (by omega)) (cwV 1 hts gX4_sheet_X0_revisionOf rfl rfl rfl (by decide +kernel) ⟨Nat.le_of_ble_eq_true rfl, Nat.le_of_ble_eq_true rfl⟩) hG (va_recv (q0 := 0) (ci := 0) hG.1 (wX_pA hP) rfl rfl) ((wX_pA hP)) rfl rfl hl.1 dX4_sheet_109 (Nat.le_of_ble_eq_true rfl) ⟨Nat.le_of_ble_eq_true rfl, Nat.le_of_ble_eq_true rfl⟩ ?_
    have hf109_0 := hO.rv (show k < 36 by omega)
    have hf109_1 := hO.N
    exact hret _ _ _ _ _ dX4_sheet_112 hS (hP) (congrArg nI (rfl))
  · skip
    have h8 : ¬ (0 ≤ (nI k) ∧ (nI k) < nI (nS σ)) := (z_b0).mp h8
    exact absurd hvs h8
set_option maxHeartbeats 4000000 in
set_option maxRecDepth 100000 in
theorem kX4_sheet_5 (l : Launch) (G : zG) (ad : Nat → Nat → Nat) (σ : Nat → Nat) (T : Nat → Nat → Nat) (o n : Nat) (f : Nat → Int32) (x : Nat → Nat) (len : Nat) {N : Nat} (k : Nat) (hO : Ok N σ) (ho : o < 5) (hn : n ≤ 4) (hk : k < nS σ) (hd : va_D (fun _ => True) (wX G ad σ T o n f x len)) : Met l yX4_sheet wsX4_sheet (zRm 4 85) (zPc G [.ref (ad 0 0), .int (nI k), .int (nI 5)] (va_P G.1 vwCl (wX G ad σ T o n f x len))) (zQ (zA (wX G ad σ T o n f x len)) (some (.int (zc4 (pbn σ k)))) (va_P G.1 vwCl (wX G ad σ T o n f x len))) 0 0 (zA (wX G ad σ T o n f x len)) := by
  refine zmkWi (w := (wX G ad σ T o n f x len)) hd (cc := cX4_sheet) (maxL := 3) (by decide) rfl (Nat.le_of_ble_eq_true rfl) ?_
  intro pr en st mi ar bl me cd ls Q hx hb hml hown hts hG hP hl hD hS hret
  have hown : st.vm.findClass RX4 = some mi.cls := hown
  have hl : lv_has ls 3 [(0, .ref (ad 0 0)), (1, .int (nI k)), (2, .int (nI 5))] := hl
  have hP : va_P G.1 vwCl (wX G ad σ T o n f x len) st.heap := hP
  have hD : va_D (zA (wX G ad σ T o n f x len)) (wX G ad σ T o n f x len) := hD
  have hinX4 : ∀ w ∈ wsX40, w ∈ wsX4_sheet := by decide +kernel
  have hf10 := hts (.fieldLink RX4 10 "MapSheets" "now" "LMapSheets$Atlas;") (by decide +kernel)
  have hc := hO.c
  have hs := hO.lS
  have hr := hO.lR
  have hne := hO.lE
  have hvs : 0 ≤ nI k ∧ nI k < nI (nS σ) := z_in hk (by omega)
  refine lv_aload_n hx hb dX4_sheet_0 rfl (lv_at hl 0 rfl) ?_
  refine va_get (D := G.1) (ci := 4) (v := .ref (ad 1 0)) (C := RX4) (T := TX4) (N := 4) hx hb hts hinX4 hown hG.1 hP 0 rfl rfl 0 (by decide) hf10 (fun _ h9 => h9) rfl dX4_sheet_1 ?_
  refine lv_iload_n hx hb dX4_sheet_4 rfl (lv_at hl 1 rfl) ?_
  refine zrdV (As := [.int (nI k)]) ⟨hx, hb, hml, hown, hts⟩ (kX0_hasSheet l G (ad 1) σ (nI k)) (cwV 1 hts gX4_sheet_X0_hasSheet rfl rfl rfl (by decide +kernel) ⟨Nat.le_of_ble_eq_true rfl, Nat.le_of_ble_eq_true rfl⟩) hG (va_recv (q0 := 0) (ci := 0) hG.1 (wX_pA hP) rfl rfl) ((wX_pA hP)) rfl rfl hl.1 dX4_sheet_5 (Nat.le_of_ble_eq_true rfl) ⟨Nat.le_of_ble_eq_true rfl, Nat.le_of_ble_eq_true rfl⟩ ?_
  refine lv_if_ne (tgt := 13) hx hb dX4_sheet_8 (by decide) (fun h8 => ?_) (fun h8 => ?_)
  · skip
    have h8 : ¬ (¬ (0 ≤ (nI k) ∧ (nI k) < nI (nS σ))) := fun q => h8 ((z_b0).mpr q)
    have h8 : 0 ≤ (nI k) ∧ (nI k) < nI (nS σ) := Decidable.of_not_not h8
    refine lv_iload_n hx hb dX4_sheet_13 rfl (lv_at hl 2 rfl) ?_
    refine lv_tableIn (off := 99) (tgt := 113) hx hb dX4_sheet_14 (by decide) (by decide) (by decide) (by decide) ?_
    refine lv_aload_n hx hb dX4_sheet_113 rfl (lv_at hl 0 rfl) ?_
    refine va_get (D := G.1) (ci := 4) (v := .ref (ad 1 0)) (C := RX4) (T := TX4) (N := 4) hx hb hts hinX4 hown hG.1 hP 0 rfl rfl 0 (by decide) hf10 (fun _ h9 => h9) rfl dX4_sheet_114 ?_
    refine lv_iload_n hx hb dX4_sheet_117 rfl (lv_at hl 1 rfl) ?_
    refine zrdV (As := [.int (nI k)]) ⟨hx, hb, hml, hown, hts⟩ (kX0_isPublished l G (ad 1) σ k (hO) (by omega)) (cwV 1 hts gX4_sheet_X0_isPublished rfl rfl rfl (by decide +kernel) ⟨Nat.le_of_ble_eq_true rfl, Nat.le_of_ble_eq_true rfl⟩) hG (va_recv (q0 := 0) (ci := 0) hG.1 (wX_pA hP) rfl rfl) ((wX_pA hP)) rfl rfl hl.1 dX4_sheet_118 (Nat.le_of_ble_eq_true rfl) ⟨Nat.le_of_ble_eq_true rfl, Nat.le_of_ble_eq_true rfl⟩ ?_
    refine lv_if_eq (tgt := 135) hx hb dX4_sheet_121 (by decide) (fun h121 => ?_) (fun h121 => ?_)
    · skip
      have h121 : ¬ (¬ (pbn σ k = 0)) := (z_b0).mp h121
      refine lv_bipush (v := (-4)) hx hb dX4_sheet_135 (by decide) ?_
      exact hret _ _ _ _ _ dX4_sheet_137 hS (hP) (by unfold zc4; rw [if_pos (Decidable.byContradiction h121)])
    · skip
      have h121 : ¬ (¬ (¬ (pbn σ k = 0))) := fun q => h121 ((z_b0).mpr q)
      have h121 : ¬ (pbn σ k = 0) := Decidable.of_not_not h121
      refine lv_aload_n hx hb dX4_sheet_124 rfl (lv_at hl 0 rfl) ?_
      refine va_get (D := G.1) (ci := 4) (v := .ref (ad 1 0)) (C := RX4) (T := TX4) (N := 4) hx hb hts hinX4 hown hG.1 hP 0 rfl rfl 0 (by decide) hf10 (fun _ h9 => h9) rfl dX4_sheet_125 ?_
      refine lv_iload_n hx hb dX4_sheet_128 rfl (lv_at hl 1 rfl) ?_
      refine zrdV (As := [.int (nI k)]) ⟨hx, hb, hml, hown, hts⟩ (kX0_publishedOf l G (ad 1) σ k (hO) (by omega)) (cwV 1 hts gX4_sheet_X0_publishedOf rfl rfl rfl (by decide +kernel) ⟨Nat.le_of_ble_eq_true rfl, Nat.le_of_ble_eq_true rfl⟩) hG (va_recv (q0 := 0) (ci := 0) hG.1 (wX_pA hP) rfl rfl) ((wX_pA hP)) rfl rfl hl.1 dX4_sheet_129 (Nat.le_of_ble_eq_true rfl) ⟨Nat.le_of_ble_eq_true rfl, Nat.le_of_ble_eq_true rfl⟩ ?_
      have hf129_0 := hO.pb (show k < 36 by omega)
      have hf129_1 := hO.N
      refine lv_goto (tgt := 137) hx hb dX4_sheet_132 (by decide) ?_
      exact hret _ _ _ _ _ dX4_sheet_137 hS (hP) (by unfold zc4 pbF; rw [if_neg h121, if_neg h121])
  · skip
    have h8 : ¬ (0 ≤ (nI k) ∧ (nI k) < nI (nS σ)) := (z_b0).mp h8
    exact absurd hvs h8
set_option maxHeartbeats 4000000 in
set_option maxRecDepth 100000 in
theorem kX4_sheet_6 (l : Launch) (G : zG) (ad : Nat → Nat → Nat) (σ : Nat → Nat) (T : Nat → Nat → Nat) (o n : Nat) (f : Nat → Int32) (x : Nat → Nat) (len : Nat) {N : Nat} (k : Nat) (hO : Ok N σ) (ho : o < 5) (hn : n ≤ 4) (hk : k < nS σ) (hd : va_D (fun _ => True) (wX G ad σ T o n f x len)) : Met l yX4_sheet wsX4_sheet (zRm 4 85) (zPc G [.ref (ad 0 0), .int (nI k), .int (nI 6)] (va_P G.1 vwCl (wX G ad σ T o n f x len))) (zQ (zA (wX G ad σ T o n f x len)) (some (.int (if pbn σ k = rvn σ k + 1 then nI 1 else nI 0))) (va_P G.1 vwCl (wX G ad σ T o n f x len))) 0 0 (zA (wX G ad σ T o n f x len)) := by
  refine zmkWi (w := (wX G ad σ T o n f x len)) hd (cc := cX4_sheet) (maxL := 3) (by decide) rfl (Nat.le_of_ble_eq_true rfl) ?_
  intro pr en st mi ar bl me cd ls Q hx hb hml hown hts hG hP hl hD hS hret
  have hown : st.vm.findClass RX4 = some mi.cls := hown
  have hl : lv_has ls 3 [(0, .ref (ad 0 0)), (1, .int (nI k)), (2, .int (nI 6))] := hl
  have hP : va_P G.1 vwCl (wX G ad σ T o n f x len) st.heap := hP
  have hD : va_D (zA (wX G ad σ T o n f x len)) (wX G ad σ T o n f x len) := hD
  have hinX4 : ∀ w ∈ wsX40, w ∈ wsX4_sheet := by decide +kernel
  have hf10 := hts (.fieldLink RX4 10 "MapSheets" "now" "LMapSheets$Atlas;") (by decide +kernel)
  have hc := hO.c
  have hs := hO.lS
  have hr := hO.lR
  have hne := hO.lE
  have hvs : 0 ≤ nI k ∧ nI k < nI (nS σ) := z_in hk (by omega)
  refine lv_aload_n hx hb dX4_sheet_0 rfl (lv_at hl 0 rfl) ?_
  refine va_get (D := G.1) (ci := 4) (v := .ref (ad 1 0)) (C := RX4) (T := TX4) (N := 4) hx hb hts hinX4 hown hG.1 hP 0 rfl rfl 0 (by decide) hf10 (fun _ h9 => h9) rfl dX4_sheet_1 ?_
  refine lv_iload_n hx hb dX4_sheet_4 rfl (lv_at hl 1 rfl) ?_
  refine zrdV (As := [.int (nI k)]) ⟨hx, hb, hml, hown, hts⟩ (kX0_hasSheet l G (ad 1) σ (nI k)) (cwV 1 hts gX4_sheet_X0_hasSheet rfl rfl rfl (by decide +kernel) ⟨Nat.le_of_ble_eq_true rfl, Nat.le_of_ble_eq_true rfl⟩) hG (va_recv (q0 := 0) (ci := 0) hG.1 (wX_pA hP) rfl rfl) ((wX_pA hP)) rfl rfl hl.1 dX4_sheet_5 (Nat.le_of_ble_eq_true rfl) ⟨Nat.le_of_ble_eq_true rfl, Nat.le_of_ble_eq_true rfl⟩ ?_
  refine lv_if_ne (tgt := 13) hx hb dX4_sheet_8 (by decide) (fun h8 => ?_) (fun h8 => ?_)
  · skip
    have h8 : ¬ (¬ (0 ≤ (nI k) ∧ (nI k) < nI (nS σ))) := fun q => h8 ((z_b0).mpr q)
    have h8 : 0 ≤ (nI k) ∧ (nI k) < nI (nS σ) := Decidable.of_not_not h8
    refine lv_iload_n hx hb dX4_sheet_13 rfl (lv_at hl 2 rfl) ?_
    refine lv_tableIn (off := 124) (tgt := 138) hx hb dX4_sheet_14 (by decide) (by decide) (by decide) (by decide) ?_
    refine lv_aload_n hx hb dX4_sheet_138 rfl (lv_at hl 0 rfl) ?_
    refine va_get (D := G.1) (ci := 4) (v := .ref (ad 1 0)) (C := RX4) (T := TX4) (N := 4) hx hb hts hinX4 hown hG.1 hP 0 rfl rfl 0 (by decide) hf10 (fun _ h9 => h9) rfl dX4_sheet_139 ?_
    refine lv_iload_n hx hb dX4_sheet_142 rfl (lv_at hl 1 rfl) ?_
    refine zrdV (As := [.int (nI k)]) ⟨hx, hb, hml, hown, hts⟩ (kX0_isUpToDate l G (ad 1) σ k (hO) (by omega)) (cwV 1 hts gX4_sheet_X0_isUpToDate rfl rfl rfl (by decide +kernel) ⟨Nat.le_of_ble_eq_true rfl, Nat.le_of_ble_eq_true rfl⟩) hG (va_recv (q0 := 0) (ci := 0) hG.1 (wX_pA hP) rfl rfl) ((wX_pA hP)) rfl rfl hl.1 dX4_sheet_143 (Nat.le_of_ble_eq_true rfl) ⟨Nat.le_of_ble_eq_true rfl, Nat.le_of_ble_eq_true rfl⟩ ?_
    refine lv_if_eq (tgt := 153) hx hb dX4_sheet_146 (by decide) (fun h146 => ?_) (fun h146 => ?_)
    · skip
      have h146 : ¬ (pbn σ k = rvn σ k + 1) := (z_b0).mp h146
      refine lv_iconst (v := nI 0) hx hb dX4_sheet_153 (by decide) ?_
      exact hret _ _ _ _ _ dX4_sheet_154 hS (hP) (by rw [if_neg h146])
    · skip
      have h146 : ¬ (¬ (pbn σ k = rvn σ k + 1)) := fun q => h146 ((z_b0).mpr q)
      have h146 : pbn σ k = rvn σ k + 1 := Decidable.of_not_not h146
      refine lv_iconst (v := nI 1) hx hb dX4_sheet_149 (by decide) ?_
      refine lv_goto (tgt := 154) hx hb dX4_sheet_150 (by decide) ?_
      exact hret _ _ _ _ _ dX4_sheet_154 hS (hP) (by rw [if_pos h146])
  · skip
    have h8 : ¬ (0 ≤ (nI k) ∧ (nI k) < nI (nS σ)) := (z_b0).mp h8
    exact absurd hvs h8
set_option maxHeartbeats 4000000 in
set_option maxRecDepth 100000 in
theorem kX4_sheet_7 (l : Launch) (G : zG) (ad : Nat → Nat → Nat) (σ : Nat → Nat) (T : Nat → Nat → Nat) (o n : Nat) (f : Nat → Int32) (x : Nat → Nat) (len : Nat) {N : Nat} (k : Nat) (hO : Ok N σ) (ho : o < 5) (hn : n ≤ 4) (hk : k < nS σ) (hd : va_D (fun _ => True) (wX G ad σ T o n f x len)) : Met l yX4_sheet wsX4_sheet (zRm 4 85) (zPc G [.ref (ad 0 0), .int (nI k), .int (nI 7)] (va_P G.1 vwCl (wX G ad σ T o n f x len))) (zQ (zA (wX G ad σ T o n f x len)) (some (.int (nI (scn σ k)))) (va_P G.1 vwCl (wX G ad σ T o n f x len))) 0 0 (zA (wX G ad σ T o n f x len)) := by
  refine zmkWi (w := (wX G ad σ T o n f x len)) hd (cc := cX4_sheet) (maxL := 3) (by decide) rfl (Nat.le_of_ble_eq_true rfl) ?_
  intro pr en st mi ar bl me cd ls Q hx hb hml hown hts hG hP hl hD hS hret
  have hown : st.vm.findClass RX4 = some mi.cls := hown
  have hl : lv_has ls 3 [(0, .ref (ad 0 0)), (1, .int (nI k)), (2, .int (nI 7))] := hl
  have hP : va_P G.1 vwCl (wX G ad σ T o n f x len) st.heap := hP
  have hD : va_D (zA (wX G ad σ T o n f x len)) (wX G ad σ T o n f x len) := hD
  have hinX4 : ∀ w ∈ wsX40, w ∈ wsX4_sheet := by decide +kernel
  have hf10 := hts (.fieldLink RX4 10 "MapSheets" "now" "LMapSheets$Atlas;") (by decide +kernel)
  have hc := hO.c
  have hs := hO.lS
  have hr := hO.lR
  have hne := hO.lE
  have hvs : 0 ≤ nI k ∧ nI k < nI (nS σ) := z_in hk (by omega)
  refine lv_aload_n hx hb dX4_sheet_0 rfl (lv_at hl 0 rfl) ?_
  refine va_get (D := G.1) (ci := 4) (v := .ref (ad 1 0)) (C := RX4) (T := TX4) (N := 4) hx hb hts hinX4 hown hG.1 hP 0 rfl rfl 0 (by decide) hf10 (fun _ h9 => h9) rfl dX4_sheet_1 ?_
  refine lv_iload_n hx hb dX4_sheet_4 rfl (lv_at hl 1 rfl) ?_
  refine zrdV (As := [.int (nI k)]) ⟨hx, hb, hml, hown, hts⟩ (kX0_hasSheet l G (ad 1) σ (nI k)) (cwV 1 hts gX4_sheet_X0_hasSheet rfl rfl rfl (by decide +kernel) ⟨Nat.le_of_ble_eq_true rfl, Nat.le_of_ble_eq_true rfl⟩) hG (va_recv (q0 := 0) (ci := 0) hG.1 (wX_pA hP) rfl rfl) ((wX_pA hP)) rfl rfl hl.1 dX4_sheet_5 (Nat.le_of_ble_eq_true rfl) ⟨Nat.le_of_ble_eq_true rfl, Nat.le_of_ble_eq_true rfl⟩ ?_
  refine lv_if_ne (tgt := 13) hx hb dX4_sheet_8 (by decide) (fun h8 => ?_) (fun h8 => ?_)
  · skip
    have h8 : ¬ (¬ (0 ≤ (nI k) ∧ (nI k) < nI (nS σ))) := fun q => h8 ((z_b0).mpr q)
    have h8 : 0 ≤ (nI k) ∧ (nI k) < nI (nS σ) := Decidable.of_not_not h8
    refine lv_iload_n hx hb dX4_sheet_13 rfl (lv_at hl 2 rfl) ?_
    refine lv_tableIn (off := 141) (tgt := 155) hx hb dX4_sheet_14 (by decide) (by decide) (by decide) (by decide) ?_
    refine lv_aload_n hx hb dX4_sheet_155 rfl (lv_at hl 0 rfl) ?_
    refine va_get (D := G.1) (ci := 4) (v := .ref (ad 1 0)) (C := RX4) (T := TX4) (N := 4) hx hb hts hinX4 hown hG.1 hP 0 rfl rfl 0 (by decide) hf10 (fun _ h9 => h9) rfl dX4_sheet_156 ?_
    refine lv_iload_n hx hb dX4_sheet_159 rfl (lv_at hl 1 rfl) ?_
    refine zrdV (As := [.int (nI k)]) ⟨hx, hb, hml, hown, hts⟩ (kX0_scaleOf l G (ad 1) σ k (hO) (by omega)) (cwV 1 hts gX4_sheet_X0_scaleOf rfl rfl rfl (by decide +kernel) ⟨Nat.le_of_ble_eq_true rfl, Nat.le_of_ble_eq_true rfl⟩) hG (va_recv (q0 := 0) (ci := 0) hG.1 (wX_pA hP) rfl rfl) ((wX_pA hP)) rfl rfl hl.1 dX4_sheet_160 (Nat.le_of_ble_eq_true rfl) ⟨Nat.le_of_ble_eq_true rfl, Nat.le_of_ble_eq_true rfl⟩ ?_
    have hf160_0 := hO.sc (show k < 36 by omega)
    exact hret _ _ _ _ _ dX4_sheet_163 hS (hP) (congrArg nI (rfl))
  · skip
    have h8 : ¬ (0 ≤ (nI k) ∧ (nI k) < nI (nS σ)) := (z_b0).mp h8
    exact absurd hvs h8
set_option maxHeartbeats 4000000 in
set_option maxRecDepth 100000 in
theorem kX4_sheet_8 (l : Launch) (G : zG) (ad : Nat → Nat → Nat) (σ : Nat → Nat) (T : Nat → Nat → Nat) (o n : Nat) (f : Nat → Int32) (x : Nat → Nat) (len : Nat) {N : Nat} (k : Nat) (hO : Ok N σ) (ho : o < 5) (hn : n ≤ 4) (hk : k < nS σ) (hd : va_D (fun _ => True) (wX G ad σ T o n f x len)) : Met l yX4_sheet wsX4_sheet (zRm 4 85) (zPc G [.ref (ad 0 0), .int (nI k), .int (nI 8)] (va_P G.1 vwCl (wX G ad σ T o n f x len))) (zQ (zA (wX G ad σ T o n f x len)) (some (.int (nI (sgs σ k)))) (va_P G.1 vwCl (wX G ad σ T o n f x len))) 0 0 (zA (wX G ad σ T o n f x len)) := by
  refine zmkWi (w := (wX G ad σ T o n f x len)) hd (cc := cX4_sheet) (maxL := 3) (by decide) rfl (Nat.le_of_ble_eq_true rfl) ?_
  intro pr en st mi ar bl me cd ls Q hx hb hml hown hts hG hP hl hD hS hret
  have hown : st.vm.findClass RX4 = some mi.cls := hown
  have hl : lv_has ls 3 [(0, .ref (ad 0 0)), (1, .int (nI k)), (2, .int (nI 8))] := hl
  have hP : va_P G.1 vwCl (wX G ad σ T o n f x len) st.heap := hP
  have hD : va_D (zA (wX G ad σ T o n f x len)) (wX G ad σ T o n f x len) := hD
  have hinX4 : ∀ w ∈ wsX40, w ∈ wsX4_sheet := by decide +kernel
  have hf10 := hts (.fieldLink RX4 10 "MapSheets" "now" "LMapSheets$Atlas;") (by decide +kernel)
  have hc := hO.c
  have hs := hO.lS
  have hr := hO.lR
  have hne := hO.lE
  have hvs : 0 ≤ nI k ∧ nI k < nI (nS σ) := z_in hk (by omega)
  refine lv_aload_n hx hb dX4_sheet_0 rfl (lv_at hl 0 rfl) ?_
  refine va_get (D := G.1) (ci := 4) (v := .ref (ad 1 0)) (C := RX4) (T := TX4) (N := 4) hx hb hts hinX4 hown hG.1 hP 0 rfl rfl 0 (by decide) hf10 (fun _ h9 => h9) rfl dX4_sheet_1 ?_
  refine lv_iload_n hx hb dX4_sheet_4 rfl (lv_at hl 1 rfl) ?_
  refine zrdV (As := [.int (nI k)]) ⟨hx, hb, hml, hown, hts⟩ (kX0_hasSheet l G (ad 1) σ (nI k)) (cwV 1 hts gX4_sheet_X0_hasSheet rfl rfl rfl (by decide +kernel) ⟨Nat.le_of_ble_eq_true rfl, Nat.le_of_ble_eq_true rfl⟩) hG (va_recv (q0 := 0) (ci := 0) hG.1 (wX_pA hP) rfl rfl) ((wX_pA hP)) rfl rfl hl.1 dX4_sheet_5 (Nat.le_of_ble_eq_true rfl) ⟨Nat.le_of_ble_eq_true rfl, Nat.le_of_ble_eq_true rfl⟩ ?_
  refine lv_if_ne (tgt := 13) hx hb dX4_sheet_8 (by decide) (fun h8 => ?_) (fun h8 => ?_)
  · skip
    have h8 : ¬ (¬ (0 ≤ (nI k) ∧ (nI k) < nI (nS σ))) := fun q => h8 ((z_b0).mpr q)
    have h8 : 0 ≤ (nI k) ∧ (nI k) < nI (nS σ) := Decidable.of_not_not h8
    refine lv_iload_n hx hb dX4_sheet_13 rfl (lv_at hl 2 rfl) ?_
    refine lv_tableIn (off := 150) (tgt := 164) hx hb dX4_sheet_14 (by decide) (by decide) (by decide) (by decide) ?_
    refine lv_aload_n hx hb dX4_sheet_164 rfl (lv_at hl 0 rfl) ?_
    refine va_get (D := G.1) (ci := 4) (v := .ref (ad 1 0)) (C := RX4) (T := TX4) (N := 4) hx hb hts hinX4 hown hG.1 hP 0 rfl rfl 0 (by decide) hf10 (fun _ h9 => h9) rfl dX4_sheet_165 ?_
    refine lv_iload_n hx hb dX4_sheet_168 rfl (lv_at hl 1 rfl) ?_
    refine zrdV (As := [.int (nI k)]) ⟨hx, hb, hml, hown, hts⟩ (kX0_signsShownOn l G (ad 1) σ k (hO) (by omega)) (cwV 1 hts gX4_sheet_X0_signsShownOn rfl rfl rfl (by decide +kernel) ⟨Nat.le_of_ble_eq_true rfl, Nat.le_of_ble_eq_true rfl⟩) hG (va_recv (q0 := 0) (ci := 0) hG.1 (wX_pA hP) rfl rfl) ((wX_pA hP)) rfl rfl hl.1 dX4_sheet_169 (Nat.le_of_ble_eq_true rfl) ⟨Nat.le_of_ble_eq_true rfl, Nat.le_of_ble_eq_true rfl⟩ ?_
    exact hret _ _ _ _ _ dX4_sheet_172 hS (hP) (congrArg nI (rfl))
  · skip
    have h8 : ¬ (0 ≤ (nI k) ∧ (nI k) < nI (nS σ)) := (z_b0).mp h8
    exact absurd hvs h8
set_option maxHeartbeats 4000000 in
set_option maxRecDepth 100000 in
theorem kX4_sheet_9 (l : Launch) (G : zG) (ad : Nat → Nat → Nat) (σ : Nat → Nat) (T : Nat → Nat → Nat) (o n : Nat) (f : Nat → Int32) (x : Nat → Nat) (len : Nat) {N : Nat} (k : Nat) (hO : Ok N σ) (ho : o < 5) (hn : n ≤ 4) (hk : k < nS σ) (hd : va_D (fun _ => True) (wX G ad σ T o n f x len)) : Met l yX4_sheet wsX4_sheet (zRm 4 85) (zPc G [.ref (ad 0 0), .int (nI k), .int (nI 9)] (va_P G.1 vwCl (wX G ad σ T o n f x len))) (zQ (zA (wX G ad σ T o n f x len)) (some (.int (nI (blk σ (nE σ) k)))) (va_P G.1 vwCl (wX G ad σ T o n (fun k => nI (blk σ (nE σ) k)) x len))) 0 0 (zA (wX G ad σ T o n f x len)) := by
  refine zmkWi (w := (wX G ad σ T o n f x len)) hd (cc := cX4_sheet) (maxL := 3) (by decide) rfl (Nat.le_of_ble_eq_true rfl) ?_
  intro pr en st mi ar bl me cd ls Q hx hb hml hown hts hG hP hl hD hS hret
  have hown : st.vm.findClass RX4 = some mi.cls := hown
  have hl : lv_has ls 3 [(0, .ref (ad 0 0)), (1, .int (nI k)), (2, .int (nI 9))] := hl
  have hP : va_P G.1 vwCl (wX G ad σ T o n f x len) st.heap := hP
  have hD : va_D (zA (wX G ad σ T o n f x len)) (wX G ad σ T o n f x len) := hD
  have hinX4 : ∀ w ∈ wsX40, w ∈ wsX4_sheet := by decide +kernel
  have hf10 := hts (.fieldLink RX4 10 "MapSheets" "now" "LMapSheets$Atlas;") (by decide +kernel)
  have hf26 := hts (.fieldLink RX4 26 "MapSheets" "blocks" "LMapSheets$Blocks;") (by decide +kernel)
  have hc := hO.c
  have hs := hO.lS
  have hr := hO.lR
  have hne := hO.lE
  have hvs : 0 ≤ nI k ∧ nI k < nI (nS σ) := z_in hk (by omega)
  refine lv_aload_n hx hb dX4_sheet_0 rfl (lv_at hl 0 rfl) ?_
  refine va_get (D := G.1) (ci := 4) (v := .ref (ad 1 0)) (C := RX4) (T := TX4) (N := 4) hx hb hts hinX4 hown hG.1 hP 0 rfl rfl 0 (by decide) hf10 (fun _ h9 => h9) rfl dX4_sheet_1 ?_
  refine lv_iload_n hx hb dX4_sheet_4 rfl (lv_at hl 1 rfl) ?_
  refine zrdV (As := [.int (nI k)]) ⟨hx, hb, hml, hown, hts⟩ (kX0_hasSheet l G (ad 1) σ (nI k)) (cwV 1 hts gX4_sheet_X0_hasSheet rfl rfl rfl (by decide +kernel) ⟨Nat.le_of_ble_eq_true rfl, Nat.le_of_ble_eq_true rfl⟩) hG (va_recv (q0 := 0) (ci := 0) hG.1 (wX_pA hP) rfl rfl) ((wX_pA hP)) rfl rfl hl.1 dX4_sheet_5 (Nat.le_of_ble_eq_true rfl) ⟨Nat.le_of_ble_eq_true rfl, Nat.le_of_ble_eq_true rfl⟩ ?_
  refine lv_if_ne (tgt := 13) hx hb dX4_sheet_8 (by decide) (fun h8 => ?_) (fun h8 => ?_)
  · skip
    have h8 : ¬ (¬ (0 ≤ (nI k) ∧ (nI k) < nI (nS σ))) := fun q => h8 ((z_b0).mpr q)
    have h8 : 0 ≤ (nI k) ∧ (nI k) < nI (nS σ) := Decidable.of_not_not h8
    refine lv_iload_n hx hb dX4_sheet_13 rfl (lv_at hl 2 rfl) ?_
    refine lv_tableIn (off := 159) (tgt := 173) hx hb dX4_sheet_14 (by decide) (by decide) (by decide) (by decide) ?_
    refine lv_aload_n hx hb dX4_sheet_173 rfl (lv_at hl 0 rfl) ?_
    refine va_get (D := G.1) (ci := 4) (v := .ref (ad 3 0)) (C := RX4) (T := TX4) (N := 4) hx hb hts hinX4 hown hG.1 hP 0 rfl rfl 2 (by decide) hf26 (fun _ h9 => h9) rfl dX4_sheet_174 ?_
    refine lv_aload_n hx hb dX4_sheet_177 rfl (lv_at hl 0 rfl) ?_
    refine va_get (D := G.1) (ci := 4) (v := .ref (ad 1 0)) (C := RX4) (T := TX4) (N := 4) hx hb hts hinX4 hown hG.1 hP 0 rfl rfl 0 (by decide) hf10 (fun _ h9 => h9) rfl dX4_sheet_178 ?_
    refine zwrE (G := G) (wc' := (wA G (ad 1) σ ++ wB G (ad 3) (fun k => nI (blk σ (nE σ) k)))) (ws' := (wX G ad σ T o n (fun k => nI (blk σ (nE σ) k)) x len)) (va_runV (As := [.ref (ad 1 0)]) (rest := []) ⟨hx, hb, hml, hown, hts⟩ (kX1_find l G (ad 1) (ad 3) σ f (hO) (zD_any (wX_dAB hD))) (cwV 1 hts gX4_sheet_X1_find rfl rfl rfl (by decide +kernel) ⟨Nat.le_of_ble_eq_true rfl, Nat.le_of_ble_eq_true rfl⟩) (zPreV hG (va_recv (q0 := 0) (ci := 1) hG.1 (wX_pB hP) rfl rfl) (wX_pAB hP)) rfl rfl hl.1 rfl (lv_room (Nat.le_of_ble_eq_true rfl)) dX4_sheet_181 ⟨Nat.le_of_ble_eq_true rfl, Nat.le_of_ble_eq_true rfl⟩) (wX_eAB) (wX_eAB) hP hD hS rfl (fun H locs hP hD hS => ?_)
    have hP : va_P G.1 vwCl (wX G ad σ T o n (fun k => nI (blk σ (nE σ) k)) x len) H := hP
    have hD : va_D (zA (wX G ad σ T o n f x len)) (wX G ad σ T o n (fun k => nI (blk σ (nE σ) k)) x len) := hD
    refine lv_pop hx hb dX4_sheet_184 rfl ?_
    refine lv_aload_n hx hb dX4_sheet_185 rfl (lv_at hl 0 rfl) ?_
    refine va_get (D := G.1) (ci := 4) (v := .ref (ad 3 0)) (C := RX4) (T := TX4) (N := 4) hx hb hts hinX4 hown hG.1 hP 0 rfl rfl 2 (by decide) hf26 (fun _ h9 => h9) rfl dX4_sheet_186 ?_
    refine lv_iload_n hx hb dX4_sheet_189 rfl (lv_at hl 1 rfl) ?_
    refine zrdV (As := [.int (nI k)]) ⟨hx, hb, hml, hown, hts⟩ (kX1_lowestOf l G (ad 3) (blk σ (nE σ)) k (by omega)) (cwV 1 hts gX4_sheet_X1_lowestOf rfl rfl rfl (by decide +kernel) ⟨Nat.le_of_ble_eq_true rfl, Nat.le_of_ble_eq_true rfl⟩) hG (va_recv (q0 := 0) (ci := 1) hG.1 (wX_pB hP) rfl rfl) (wX_pB hP) rfl rfl hl.1 dX4_sheet_190 (Nat.le_of_ble_eq_true rfl) ⟨Nat.le_of_ble_eq_true rfl, Nat.le_of_ble_eq_true rfl⟩ ?_
    exact hret _ _ _ _ _ dX4_sheet_193 hS (hP) (congrArg nI (rfl))
  · skip
    have h8 : ¬ (0 ≤ (nI k) ∧ (nI k) < nI (nS σ)) := (z_b0).mp h8
    exact absurd hvs h8
