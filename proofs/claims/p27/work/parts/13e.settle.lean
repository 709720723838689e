theorem wA_mp (G : zG) (a σ τ : Nat → Nat) : (wA G a τ).map (·.1) = (wA G a σ).map (·.1) := rfl
theorem stc_le (σ : Nat → Nat) (k1 d1 k2 d2 p : Nat) : stc σ k1 d1 k2 d2 p ≤ p := sm_01 p
theorem z_m2 {n : Nat} (h : n < 2 ^ 31) : nI n ≠ (-2) := by
  intro q
  have := congrArg Int32.toInt q
  rw [nI_toInt h] at this
  rw [show ((-2 : Int32)).toInt = -2 by decide] at this
  omega
set_option maxHeartbeats 4000000 in
set_option maxRecDepth 100000 in
theorem kX4_settle_inv (l : Launch) (G : zG) (ad : Nat → Nat → Nat) (σ : Nat → Nat) (T : Nat → Nat → Nat) (o n : Nat) (f : Nat → Int32) (x : Nat → Nat) (len : Nat) {N : Nat} (x1 : Int32) (x2 : Int32) (hO : Ok N σ) (ho : o < 5) (hn : n ≤ 4) (hv : ¬ (0 ≤ x1 ∧ x1 < nI (nE σ))) (hd : va_D (fun _ => True) (wX G ad σ T o n f x len)) : Met l yX4_settle wsX4_settle (zRm 4 104) (zPc G [.ref (ad 0 0), .int x1, .int x2] (va_P G.1 vwCl (wX G ad σ T o n f x len))) (zQ (zA (wX G ad σ T o n f x len)) (some (.int ((-1)))) (va_P G.1 vwCl (wX G ad σ T o n f x len))) 0 0 (zA (wX G ad σ T o n f x len)) := by
  refine zmkWi (w := (wX G ad σ T o n f x len)) hd (cc := cX4_settle) (maxL := 4) (by decide) rfl (Nat.le_of_ble_eq_true rfl) ?_
  intro pr en st mi ar bl me cd ls Q hx hb hml hown hts hG hP hl hD hS hret
  have hown : st.vm.findClass RX4 = some mi.cls := hown
  have hl : lv_has ls 4 [(0, .ref (ad 0 0)), (1, .int x1), (2, .int x2)] := hl
  have hP : va_P G.1 vwCl (wX G ad σ T o n f x len) st.heap := hP
  have hD : va_D (zA (wX G ad σ T o n f x len)) (wX G ad σ T o n f x len) := hD
  have hinX4 : ∀ w ∈ wsX40, w ∈ wsX4_settle := by decide +kernel
  have hf10 := hts (.fieldLink RX4 10 "MapSheets" "now" "LMapSheets$Atlas;") (by decide +kernel)
  have hc := hO.c
  have hs := hO.lS
  have hr := hO.lR
  have hne := hO.lE
  refine lv_aload_n hx hb dX4_settle_0 rfl (lv_at hl 0 rfl) ?_
  refine va_get (D := G.1) (ci := 4) (v := .ref (ad 1 0)) (C := RX4) (T := TX4) (N := 4) hx hb hts hinX4 hown hG.1 hP 0 rfl rfl 0 (by decide) hf10 (fun _ h9 => h9) rfl dX4_settle_1 ?_
  refine lv_iload_n hx hb dX4_settle_4 rfl (lv_at hl 1 rfl) ?_
  refine zrdV (As := [.int x1]) ⟨hx, hb, hml, hown, hts⟩ (kX0_hasEdge l G (ad 1) σ x1 (hO)) (cwV 1 hts gX4_settle_X0_hasEdge rfl rfl rfl (by decide +kernel) ⟨Nat.le_of_ble_eq_true rfl, Nat.le_of_ble_eq_true rfl⟩) hG (va_recv (q0 := 0) (ci := 0) hG.1 (wX_pA hP) rfl rfl) ((wX_pA hP)) rfl rfl hl.1 dX4_settle_5 (Nat.le_of_ble_eq_true rfl) ⟨Nat.le_of_ble_eq_true rfl, Nat.le_of_ble_eq_true rfl⟩ ?_
  refine lv_if_ne (tgt := 13) hx hb dX4_settle_8 (by decide) (fun h8 => ?_) (fun h8 => ?_)
  · skip
    have h8 : ¬ (¬ (0 ≤ x1 ∧ x1 < nI (nE σ))) := fun q => h8 ((z_b0).mpr q)
    have h8 : 0 ≤ x1 ∧ x1 < nI (nE σ) := Decidable.of_not_not h8
    exact absurd h8 hv
  · skip
    have h8 : ¬ (0 ≤ x1 ∧ x1 < nI (nE σ)) := (z_b0).mp h8
    refine lv_iconst (v := (-1)) hx hb dX4_settle_11 (by decide) ?_
    exact hret _ _ _ _ _ dX4_settle_12 hS (hP) (rfl)
set_option maxHeartbeats 4000000 in
set_option maxRecDepth 100000 in
theorem kX4_settle_neither (l : Launch) (G : zG) (ad : Nat → Nat → Nat) (σ : Nat → Nat) (T : Nat → Nat → Nat) (o n : Nat) (f : Nat → Int32) (x : Nat → Nat) (len : Nat) {N : Nat} (e : Nat) (x2 : Int32) (hO : Ok N σ) (ho : o < 5) (hn : n ≤ 4) (he : e < nE σ) (hv1 : x2 ≠ nI (fS σ e)) (hv2 : x2 ≠ nI (sS σ e)) (hd : va_D (fun _ => True) (wX G ad σ T o n f x len)) : Met l yX4_settle wsX4_settle (zRm 4 104) (zPc G [.ref (ad 0 0), .int (nI e), .int x2] (va_P G.1 vwCl (wX G ad σ T o n f x len))) (zQ (zA (wX G ad σ T o n f x len)) (some (.int ((-1)))) (va_P G.1 vwCl (wX G ad σ T o n f x len))) 0 0 (zA (wX G ad σ T o n f x len)) := by
  refine zmkWi (w := (wX G ad σ T o n f x len)) hd (cc := cX4_settle) (maxL := 4) (by decide) rfl (Nat.le_of_ble_eq_true rfl) ?_
  intro pr en st mi ar bl me cd ls Q hx hb hml hown hts hG hP hl hD hS hret
  have hown : st.vm.findClass RX4 = some mi.cls := hown
  have hl : lv_has ls 4 [(0, .ref (ad 0 0)), (1, .int (nI e)), (2, .int x2)] := hl
  have hP : va_P G.1 vwCl (wX G ad σ T o n f x len) st.heap := hP
  have hD : va_D (zA (wX G ad σ T o n f x len)) (wX G ad σ T o n f x len) := hD
  have hinX4 : ∀ w ∈ wsX40, w ∈ wsX4_settle := by decide +kernel
  have hf10 := hts (.fieldLink RX4 10 "MapSheets" "now" "LMapSheets$Atlas;") (by decide +kernel)
  have hc := hO.c
  have hs := hO.lS
  have hr := hO.lR
  have hne := hO.lE
  have hve : 0 ≤ nI e ∧ nI e < nI (nE σ) := z_in he (by omega)
  have hfs := hO.lF he
  refine lv_aload_n hx hb dX4_settle_0 rfl (lv_at hl 0 rfl) ?_
  refine va_get (D := G.1) (ci := 4) (v := .ref (ad 1 0)) (C := RX4) (T := TX4) (N := 4) hx hb hts hinX4 hown hG.1 hP 0 rfl rfl 0 (by decide) hf10 (fun _ h9 => h9) rfl dX4_settle_1 ?_
  refine lv_iload_n hx hb dX4_settle_4 rfl (lv_at hl 1 rfl) ?_
  refine zrdV (As := [.int (nI e)]) ⟨hx, hb, hml, hown, hts⟩ (kX0_hasEdge l G (ad 1) σ (nI e) (hO)) (cwV 1 hts gX4_settle_X0_hasEdge rfl rfl rfl (by decide +kernel) ⟨Nat.le_of_ble_eq_true rfl, Nat.le_of_ble_eq_true rfl⟩) hG (va_recv (q0 := 0) (ci := 0) hG.1 (wX_pA hP) rfl rfl) ((wX_pA hP)) rfl rfl hl.1 dX4_settle_5 (Nat.le_of_ble_eq_true rfl) ⟨Nat.le_of_ble_eq_true rfl, Nat.le_of_ble_eq_true rfl⟩ ?_
  refine lv_if_ne (tgt := 13) hx hb dX4_settle_8 (by decide) (fun h8 => ?_) (fun h8 => ?_)
  · skip
    have h8 : ¬ (¬ (0 ≤ (nI e) ∧ (nI e) < nI (nE σ))) := fun q => h8 ((z_b0).mpr q)
    have h8 : 0 ≤ (nI e) ∧ (nI e) < nI (nE σ) := Decidable.of_not_not h8
    refine lv_iload_n hx hb dX4_settle_13 rfl (lv_at hl 2 rfl) ?_
    refine lv_aload_n hx hb dX4_settle_14 rfl (lv_at hl 0 rfl) ?_
    refine va_get (D := G.1) (ci := 4) (v := .ref (ad 1 0)) (C := RX4) (T := TX4) (N := 4) hx hb hts hinX4 hown hG.1 hP 0 rfl rfl 0 (by decide) hf10 (fun _ h9 => h9) rfl dX4_settle_15 ?_
    refine lv_iload_n hx hb dX4_settle_18 rfl (lv_at hl 1 rfl) ?_
    refine zrdV (As := [.int (nI e)]) ⟨hx, hb, hml, hown, hts⟩ (kX0_firstSheet l G (ad 1) σ e (hO) (by omega)) (cwV 1 hts gX4_settle_X0_firstSheet rfl rfl rfl (by decide +kernel) ⟨Nat.le_of_ble_eq_true rfl, Nat.le_of_ble_eq_true rfl⟩) hG (va_recv (q0 := 0) (ci := 0) hG.1 (wX_pA hP) rfl rfl) ((wX_pA hP)) rfl rfl hl.1 dX4_settle_19 (Nat.le_of_ble_eq_true rfl) ⟨Nat.le_of_ble_eq_true rfl, Nat.le_of_ble_eq_true rfl⟩ ?_
    have hf19_0 := hO.lF (show e < nE σ by omega)
    refine lv_icmp_eq (tgt := 39) hx hb dX4_settle_22 (by decide) (fun h22 => ?_) (fun h22 => ?_)
    · skip
      exact absurd h22 hv1
    · skip
      refine lv_iload_n hx hb dX4_settle_25 rfl (lv_at hl 2 rfl) ?_
      refine lv_aload_n hx hb dX4_settle_26 rfl (lv_at hl 0 rfl) ?_
      refine va_get (D := G.1) (ci := 4) (v := .ref (ad 1 0)) (C := RX4) (T := TX4) (N := 4) hx hb hts hinX4 hown hG.1 hP 0 rfl rfl 0 (by decide) hf10 (fun _ h9 => h9) rfl dX4_settle_27 ?_
      refine lv_iload_n hx hb dX4_settle_30 rfl (lv_at hl 1 rfl) ?_
      refine zrdV (As := [.int (nI e)]) ⟨hx, hb, hml, hown, hts⟩ (kX0_secondSheet l G (ad 1) σ e (hO) (by omega)) (cwV 1 hts gX4_settle_X0_secondSheet rfl rfl rfl (by decide +kernel) ⟨Nat.le_of_ble_eq_true rfl, Nat.le_of_ble_eq_true rfl⟩) hG (va_recv (q0 := 0) (ci := 0) hG.1 (wX_pA hP) rfl rfl) ((wX_pA hP)) rfl rfl hl.1 dX4_settle_31 (Nat.le_of_ble_eq_true rfl) ⟨Nat.le_of_ble_eq_true rfl, Nat.le_of_ble_eq_true rfl⟩ ?_
      have hf31_0 := hO.lF (show e < nE σ by omega)
      refine lv_icmp_eq (tgt := 39) hx hb dX4_settle_34 (by decide) (fun h34 => ?_) (fun h34 => ?_)
      · skip
        exact absurd h34 hv2
      · skip
        refine lv_iconst (v := (-1)) hx hb dX4_settle_37 (by decide) ?_
        exact hret _ _ _ _ _ dX4_settle_38 hS (hP) (rfl)
  · skip
    have h8 : ¬ (0 ≤ (nI e) ∧ (nI e) < nI (nE σ)) := (z_b0).mp h8
    exact absurd hve h8
set_option maxHeartbeats 4000000 in
set_option maxRecDepth 100000 in
theorem kX4_settle_f_ok (l : Launch) (G : zG) (ad : Nat → Nat → Nat) (σ : Nat → Nat) (T : Nat → Nat → Nat) (o n : Nat) (f : Nat → Int32) (x : Nat → Nat) (len : Nat) {N : Nat} (e : Nat) (hO : Ok N σ) (ho : o < 5) (hn : n ≤ 4) (he : e < nE σ) (hbad : ¬ sbd σ (fS σ e) (fD σ e) (sS σ e) (sD σ e) < 10) (hd : va_D (fun _ => True) (wX G ad σ T o n f x len)) : Met l yX4_settle wsX4_settle (zRm 4 104) (zPc G [.ref (ad 0 0), .int (nI e), .int (nI (fS σ e))] (va_P G.1 vwCl (wX G ad σ T o n f x len))) (zQ (zA (wX G ad σ T o n f x len)) (some (.int (nI (stc σ (fS σ e) (fD σ e) (sS σ e) (sD σ e) 10)))) (va_P G.1 vwCl (wX G ad (stE σ (fS σ e) (fD σ e) (sS σ e) (sD σ e)) (upT T ((o + n) % 5) σ) (nO o n) (nN n) f x len))) 0 0 (zA (wX G ad σ T o n f x len)) := by
  refine zmkWi (w := (wX G ad σ T o n f x len)) hd (cc := cX4_settle) (maxL := 4) (by decide) rfl (Nat.le_of_ble_eq_true rfl) ?_
  intro pr en st mi ar bl me cd ls Q hx hb hml hown hts hG hP hl hD hS hret
  have hown : st.vm.findClass RX4 = some mi.cls := hown
  have hl : lv_has ls 4 [(0, .ref (ad 0 0)), (1, .int (nI e)), (2, .int (nI (fS σ e)))] := hl
  have hP : va_P G.1 vwCl (wX G ad σ T o n f x len) st.heap := hP
  have hD : va_D (zA (wX G ad σ T o n f x len)) (wX G ad σ T o n f x len) := hD
  have hinX4 : ∀ w ∈ wsX40, w ∈ wsX4_settle := by decide +kernel
  have hf10 := hts (.fieldLink RX4 10 "MapSheets" "now" "LMapSheets$Atlas;") (by decide +kernel)
  have hf19 := hts (.fieldLink RX4 19 "MapSheets" "history" "LMapSheets$History;") (by decide +kernel)
  have hc := hO.c
  have hs := hO.lS
  have hr := hO.lR
  have hne := hO.lE
  have hve : 0 ≤ nI e ∧ nI e < nI (nE σ) := z_in he (by omega)
  have hlt : fS σ e < sS σ e := by unfold sS; have := hO.c; split <;> omega
  have hstc := stc_le σ (fS σ e) (fD σ e) (sS σ e) (sD σ e) 10
  have hfs := hO.lF he
  refine lv_aload_n hx hb dX4_settle_0 rfl (lv_at hl 0 rfl) ?_
  refine va_get (D := G.1) (ci := 4) (v := .ref (ad 1 0)) (C := RX4) (T := TX4) (N := 4) hx hb hts hinX4 hown hG.1 hP 0 rfl rfl 0 (by decide) hf10 (fun _ h9 => h9) rfl dX4_settle_1 ?_
  refine lv_iload_n hx hb dX4_settle_4 rfl (lv_at hl 1 rfl) ?_
  refine zrdV (As := [.int (nI e)]) ⟨hx, hb, hml, hown, hts⟩ (kX0_hasEdge l G (ad 1) σ (nI e) (hO)) (cwV 1 hts gX4_settle_X0_hasEdge rfl rfl rfl (by decide +kernel) ⟨Nat.le_of_ble_eq_true rfl, Nat.le_of_ble_eq_true rfl⟩) hG (va_recv (q0 := 0) (ci := 0) hG.1 (wX_pA hP) rfl rfl) ((wX_pA hP)) rfl rfl hl.1 dX4_settle_5 (Nat.le_of_ble_eq_true rfl) ⟨Nat.le_of_ble_eq_true rfl, Nat.le_of_ble_eq_true rfl⟩ ?_
  refine lv_if_ne (tgt := 13) hx hb dX4_settle_8 (by decide) (fun h8 => ?_) (fun h8 => ?_)
  · skip
    have h8 : ¬ (¬ (0 ≤ (nI e) ∧ (nI e) < nI (nE σ))) := fun q => h8 ((z_b0).mpr q)
    have h8 : 0 ≤ (nI e) ∧ (nI e) < nI (nE σ) := Decidable.of_not_not h8
    refine lv_iload_n hx hb dX4_settle_13 rfl (lv_at hl 2 rfl) ?_
    refine lv_aload_n hx hb dX4_settle_14 rfl (lv_at hl 0 rfl) ?_
    refine va_get (D := G.1) (ci := 4) (v := .ref (ad 1 0)) (C := RX4) (T := TX4) (N := 4) hx hb hts hinX4 hown hG.1 hP 0 rfl rfl 0 (by decide) hf10 (fun _ h9 => h9) rfl dX4_settle_15 ?_
    refine lv_iload_n hx hb dX4_settle_18 rfl (lv_at hl 1 rfl) ?_
    refine zrdV (As := [.int (nI e)]) ⟨hx, hb, hml, hown, hts⟩ (kX0_firstSheet l G (ad 1) σ e (hO) (by omega)) (cwV 1 hts gX4_settle_X0_firstSheet rfl rfl rfl (by decide +kernel) ⟨Nat.le_of_ble_eq_true rfl, Nat.le_of_ble_eq_true rfl⟩) hG (va_recv (q0 := 0) (ci := 0) hG.1 (wX_pA hP) rfl rfl) ((wX_pA hP)) rfl rfl hl.1 dX4_settle_19 (Nat.le_of_ble_eq_true rfl) ⟨Nat.le_of_ble_eq_true rfl, Nat.le_of_ble_eq_true rfl⟩ ?_
    have hf19_0 := hO.lF (show e < nE σ by omega)
    refine lv_icmp_eq (tgt := 39) hx hb dX4_settle_22 (by decide) (fun h22 => ?_) (fun h22 => ?_)
    · skip
      have h22 : (fS σ e) = (fS σ e) := (nI_eq (by omega) (by omega)).mp h22
      refine lv_aload_n hx hb dX4_settle_39 rfl (lv_at hl 0 rfl) ?_
      refine va_get (D := G.1) (ci := 4) (v := .ref (ad 2 0)) (C := RX4) (T := TX4) (N := 4) hx hb hts hinX4 hown hG.1 hP 0 rfl rfl 1 (by decide) hf19 (fun _ h9 => h9) rfl dX4_settle_40 ?_
      refine lv_aload_n hx hb dX4_settle_43 rfl (lv_at hl 0 rfl) ?_
      refine va_get (D := G.1) (ci := 4) (v := .ref (ad 1 0)) (C := RX4) (T := TX4) (N := 4) hx hb hts hinX4 hown hG.1 hP 0 rfl rfl 0 (by decide) hf10 (fun _ h9 => h9) rfl dX4_settle_44 ?_
      refine zwrEv (G := G) (wc' := (wHo G (ad 2) (aH ad) o n ++ (wTs G (aH ad) (upT T ((o + n) % 5) σ) 5 ++ wA G (ad 1) σ))) (ws' := (wX G ad σ (upT T ((o + n) % 5) σ) o n f x len)) (va_runV (As := [.ref (ad 1 0)]) (rest := []) ⟨hx, hb, hml, hown, hts⟩ (kX2_recordState l G (ad 2) (aH ad) o n T (ad 1) σ (by omega) (by omega) (zD_any (wX_dHA hD))) (cwV 1 hts gX4_settle_X2_recordState rfl rfl rfl (by decide +kernel) ⟨Nat.le_of_ble_eq_true rfl, Nat.le_of_ble_eq_true rfl⟩) (zPreV hG (va_recv (q0 := 0) (ci := 2) hG.1 (wX_pH hP) rfl rfl) (wX_pHA hP)) rfl rfl hl.1 rfl (lv_room (Nat.le_of_ble_eq_true rfl)) dX4_settle_47 ⟨Nat.le_of_ble_eq_true rfl, Nat.le_of_ble_eq_true rfl⟩) (wX_eHA) (wX_eHA) hP hD hS (wHA_map _ _ _ _ _ _ _ _ _ _ _ _) (fun H locs hP hD hS => ?_)
      have hP : va_P G.1 vwCl (wX G ad σ (upT T ((o + n) % 5) σ) o n f x len) H := hP
      have hD : va_D (zA (wX G ad σ T o n f x len)) (wX G ad σ (upT T ((o + n) % 5) σ) o n f x len) := hD
      refine lv_aload_n hx hb dX4_settle_50 rfl (lv_at hl 0 rfl) ?_
      refine va_get (D := G.1) (ci := 4) (v := .ref (ad 1 0)) (C := RX4) (T := TX4) (N := 4) hx hb hts hinX4 hown hG.1 hP 0 rfl rfl 0 (by decide) hf10 (fun _ h9 => h9) rfl dX4_settle_51 ?_
      refine lv_iload_n hx hb dX4_settle_54 rfl (lv_at hl 1 rfl) ?_
      refine lv_iload_n hx hb dX4_settle_55 rfl (lv_at hl 2 rfl) ?_
      refine zwrEB (G := G) (va_runV (As := [.int (nI e), .int (nI (fS σ e))]) (rest := []) ⟨hx, hb, hml, hown, hts⟩ (kX0_settleFrom_f l G (ad 1) σ (fD σ e) (sS σ e) (sD σ e) e (fS σ e) hO he rfl rfl rfl rfl (zD_any (wX_dA hD))) (cwV 2 hts gX4_settle_X0_settleFrom rfl rfl rfl (by decide +kernel) ⟨Nat.le_of_ble_eq_true rfl, Nat.le_of_ble_eq_true rfl⟩) (zPreV hG (va_recv (q0 := 0) (ci := 0) hG.1 (wX_pA hP) rfl rfl) (wX_pA hP)) rfl rfl hl.1 rfl (lv_room (Nat.le_of_ble_eq_true rfl)) dX4_settle_56 ⟨Nat.le_of_ble_eq_true rfl, Nat.le_of_ble_eq_true rfl⟩) wX_eA hP hD hS (fun H locs hB hw hS => ?_)
      obtain ⟨hP, hD⟩ := hw (wA G (ad 1) (stE σ (fS σ e) (fD σ e) (sS σ e) (sD σ e))) (hB.2 hbad) (wA_mp _ _ _ _)
      have hP : va_P G.1 vwCl (wX G ad (stE σ (fS σ e) (fD σ e) (sS σ e) (sD σ e)) (upT T ((o + n) % 5) σ) o n f x len) H := by rw [wX_eA]; exact hP
      have hD : va_D (zA (wX G ad σ T o n f x len)) (wX G ad (stE σ (fS σ e) (fD σ e) (sS σ e) (sD σ e)) (upT T ((o + n) % 5) σ) o n f x len) := by rw [wX_eA]; exact hD
      refine lv_topi (nm_r (e' := nI (stc σ (fS σ e) (fD σ e) (sS σ e) (sD σ e) 10)) (if_neg hbad) ?_)
      refine lv_istore_n (lv' := [(3, .int (nI (stc σ (fS σ e) (fD σ e) (sS σ e) (sD σ e) 10))), (0, .ref (ad 0 0)), (1, .int (nI e)), (2, .int (nI (fS σ e)))]) hx hb dX4_settle_59 rfl hl (by decide) rfl (fun ls hl => ?_)
      refine lv_iload_n hx hb dX4_settle_60 rfl (lv_at hl 0 rfl) ?_
      refine lv_bipush (v := (-2)) hx hb dX4_settle_61 (by decide) ?_
      refine lv_icmp_ne (tgt := 80) hx hb dX4_settle_63 (by decide) (fun h63 => ?_) (fun h63 => ?_)
      · skip
        refine lv_aload_n hx hb dX4_settle_80 rfl (lv_at hl 1 rfl) ?_
        refine va_get (D := G.1) (ci := 4) (v := .ref (ad 2 0)) (C := RX4) (T := TX4) (N := 4) hx hb hts hinX4 hown hG.1 hP 0 rfl rfl 1 (by decide) hf19 (fun _ h9 => h9) rfl dX4_settle_81 ?_
        refine zwrEv (G := G) (wc' := (wHo G (ad 2) (aH ad) (nO o n) (nN n))) (ws' := (wX G ad (stE σ (fS σ e) (fD σ e) (sS σ e) (sD σ e)) (upT T ((o + n) % 5) σ) (nO o n) (nN n) f x len)) (va_runV (As := []) (rest := []) ⟨hx, hb, hml, hown, hts⟩ (kX2_keepRecord l G (ad 2) (aH ad) o n (by omega) (by omega) (zD_any (wX_dH hD))) (cwV 0 hts gX4_settle_X2_keepRecord rfl rfl rfl (by decide +kernel) ⟨Nat.le_of_ble_eq_true rfl, Nat.le_of_ble_eq_true rfl⟩) (zPreV hG (va_recv (q0 := 0) (ci := 2) hG.1 (wX_pH hP) rfl rfl) (wX_pH hP)) rfl rfl hl.1 rfl (lv_room (Nat.le_of_ble_eq_true rfl)) dX4_settle_84 ⟨Nat.le_of_ble_eq_true rfl, Nat.le_of_ble_eq_true rfl⟩) (wX_eH) (wX_eH) hP hD hS rfl (fun H locs hP hD hS => ?_)
        have hP : va_P G.1 vwCl (wX G ad (stE σ (fS σ e) (fD σ e) (sS σ e) (sD σ e)) (upT T ((o + n) % 5) σ) (nO o n) (nN n) f x len) H := hP
        have hD : va_D (zA (wX G ad σ T o n f x len)) (wX G ad (stE σ (fS σ e) (fD σ e) (sS σ e) (sD σ e)) (upT T ((o + n) % 5) σ) (nO o n) (nN n) f x len) := hD
        refine lv_iload_n hx hb dX4_settle_87 rfl (lv_at hl 0 rfl) ?_
        exact hret _ _ _ _ _ dX4_settle_88 hS (hP) (congrArg nI (rfl))
      · skip
        exact absurd h63 (z_m2 (by omega))
    · skip
      have h22 : ¬ ((fS σ e) = (fS σ e)) := fun q => h22 ((nI_eq (by omega) (by omega)).mpr q)
      exfalso; omega
  · skip
    have h8 : ¬ (0 ≤ (nI e) ∧ (nI e) < nI (nE σ)) := (z_b0).mp h8
    exact absurd hve h8
set_option maxHeartbeats 4000000 in
set_option maxRecDepth 100000 in
theorem kX4_settle_f_no (l : Launch) (G : zG) (ad : Nat → Nat → Nat) (σ : Nat → Nat) (T : Nat → Nat → Nat) (o n : Nat) (f : Nat → Int32) (x : Nat → Nat) (len : Nat) {N : Nat} (e : Nat) (hO : Ok N σ) (ho : o < 5) (hn : n ≤ 4) (he : e < nE σ) (hbad : sbd σ (fS σ e) (fD σ e) (sS σ e) (sD σ e) < 10) (hd : va_D (fun _ => True) (wX G ad σ T o n f x len)) : Met l yX4_settle wsX4_settle (zRm 4 104) (zPc G [.ref (ad 0 0), .int (nI e), .int (nI (fS σ e))] (va_P G.1 vwCl (wX G ad σ T o n f x len))) (zQ (zA (wX G ad σ T o n f x len)) (some (.int ((-2)))) (va_P G.1 vwCl (wX G ad σ (upT T ((o + n) % 5) σ) o n f x len))) 0 0 (zA (wX G ad σ T o n f x len)) := by
  refine zmkWi (w := (wX G ad σ T o n f x len)) hd (cc := cX4_settle) (maxL := 4) (by decide) rfl (Nat.le_of_ble_eq_true rfl) ?_
  intro pr en st mi ar bl me cd ls Q hx hb hml hown hts hG hP hl hD hS hret
  have hown : st.vm.findClass RX4 = some mi.cls := hown
  have hl : lv_has ls 4 [(0, .ref (ad 0 0)), (1, .int (nI e)), (2, .int (nI (fS σ e)))] := hl
  have hP : va_P G.1 vwCl (wX G ad σ T o n f x len) st.heap := hP
  have hD : va_D (zA (wX G ad σ T o n f x len)) (wX G ad σ T o n f x len) := hD
  have hinX4 : ∀ w ∈ wsX40, w ∈ wsX4_settle := by decide +kernel
  have hf10 := hts (.fieldLink RX4 10 "MapSheets" "now" "LMapSheets$Atlas;") (by decide +kernel)
  have hf19 := hts (.fieldLink RX4 19 "MapSheets" "history" "LMapSheets$History;") (by decide +kernel)
  have hc := hO.c
  have hs := hO.lS
  have hr := hO.lR
  have hne := hO.lE
  have hve : 0 ≤ nI e ∧ nI e < nI (nE σ) := z_in he (by omega)
  have hlt : fS σ e < sS σ e := by unfold sS; have := hO.c; split <;> omega
  have hstc := stc_le σ (fS σ e) (fD σ e) (sS σ e) (sD σ e) 10
  have hfs := hO.lF he
  refine lv_aload_n hx hb dX4_settle_0 rfl (lv_at hl 0 rfl) ?_
  refine va_get (D := G.1) (ci := 4) (v := .ref (ad 1 0)) (C := RX4) (T := TX4) (N := 4) hx hb hts hinX4 hown hG.1 hP 0 rfl rfl 0 (by decide) hf10 (fun _ h9 => h9) rfl dX4_settle_1 ?_
  refine lv_iload_n hx hb dX4_settle_4 rfl (lv_at hl 1 rfl) ?_
  refine zrdV (As := [.int (nI e)]) ⟨hx, hb, hml, hown, hts⟩ (kX0_hasEdge l G (ad 1) σ (nI e) (hO)) (cwV 1 hts gX4_settle_X0_hasEdge rfl rfl rfl (by decide +kernel) ⟨Nat.le_of_ble_eq_true rfl, Nat.le_of_ble_eq_true rfl⟩) hG (va_recv (q0 := 0) (ci := 0) hG.1 (wX_pA hP) rfl rfl) ((wX_pA hP)) rfl rfl hl.1 dX4_settle_5 (Nat.le_of_ble_eq_true rfl) ⟨Nat.le_of_ble_eq_true rfl, Nat.le_of_ble_eq_true rfl⟩ ?_
  refine lv_if_ne (tgt := 13) hx hb dX4_settle_8 (by decide) (fun h8 => ?_) (fun h8 => ?_)
  · skip
    have h8 : ¬ (¬ (0 ≤ (nI e) ∧ (nI e) < nI (nE σ))) := fun q => h8 ((z_b0).mpr q)
    have h8 : 0 ≤ (nI e) ∧ (nI e) < nI (nE σ) := Decidable.of_not_not h8
    refine lv_iload_n hx hb dX4_settle_13 rfl (lv_at hl 2 rfl) ?_
    refine lv_aload_n hx hb dX4_settle_14 rfl (lv_at hl 0 rfl) ?_
    refine va_get (D := G.1) (ci := 4) (v := .ref (ad 1 0)) (C := RX4) (T := TX4) (N := 4) hx hb hts hinX4 hown hG.1 hP 0 rfl rfl 0 (by decide) hf10 (fun _ h9 => h9) rfl dX4_settle_15 ?_
    refine lv_iload_n hx hb dX4_settle_18 rfl (lv_at hl 1 rfl) ?_
    refine zrdV (As := [.int (nI e)]) ⟨hx, hb, hml, hown, hts⟩ (kX0_firstSheet l G (ad 1) σ e (hO) (by omega)) (cwV 1 hts gX4_settle_X0_firstSheet rfl rfl rfl (by decide +kernel) ⟨Nat.le_of_ble_eq_true rfl, Nat.le_of_ble_eq_true rfl⟩) hG (va_recv (q0 := 0) (ci := 0) hG.1 (wX_pA hP) rfl rfl) ((wX_pA hP)) rfl rfl hl.1 dX4_settle_19 (Nat.le_of_ble_eq_true rfl) ⟨Nat.le_of_ble_eq_true rfl, Nat.le_of_ble_eq_true rfl⟩ ?_
    have hf19_0 := hO.lF (show e < nE σ by omega)
    refine lv_icmp_eq (tgt := 39) hx hb dX4_settle_22 (by decide) (fun h22 => ?_) (fun h22 => ?_)
    · skip
      have h22 : (fS σ e) = (fS σ e) := (nI_eq (by omega) (by omega)).mp h22
      refine lv_aload_n hx hb dX4_settle_39 rfl (lv_at hl 0 rfl) ?_
      refine va_get (D := G.1) (ci := 4) (v := .ref (ad 2 0)) (C := RX4) (T := TX4) (N := 4) hx hb hts hinX4 hown hG.1 hP 0 rfl rfl 1 (by decide) hf19 (fun _ h9 => h9) rfl dX4_settle_40 ?_
      refine lv_aload_n hx hb dX4_settle_43 rfl (lv_at hl 0 rfl) ?_
      refine va_get (D := G.1) (ci := 4) (v := .ref (ad 1 0)) (C := RX4) (T := TX4) (N := 4) hx hb hts hinX4 hown hG.1 hP 0 rfl rfl 0 (by decide) hf10 (fun _ h9 => h9) rfl dX4_settle_44 ?_
      refine zwrEv (G := G) (wc' := (wHo G (ad 2) (aH ad) o n ++ (wTs G (aH ad) (upT T ((o + n) % 5) σ) 5 ++ wA G (ad 1) σ))) (ws' := (wX G ad σ (upT T ((o + n) % 5) σ) o n f x len)) (va_runV (As := [.ref (ad 1 0)]) (rest := []) ⟨hx, hb, hml, hown, hts⟩ (kX2_recordState l G (ad 2) (aH ad) o n T (ad 1) σ (by omega) (by omega) (zD_any (wX_dHA hD))) (cwV 1 hts gX4_settle_X2_recordState rfl rfl rfl (by decide +kernel) ⟨Nat.le_of_ble_eq_true rfl, Nat.le_of_ble_eq_true rfl⟩) (zPreV hG (va_recv (q0 := 0) (ci := 2) hG.1 (wX_pH hP) rfl rfl) (wX_pHA hP)) rfl rfl hl.1 rfl (lv_room (Nat.le_of_ble_eq_true rfl)) dX4_settle_47 ⟨Nat.le_of_ble_eq_true rfl, Nat.le_of_ble_eq_true rfl⟩) (wX_eHA) (wX_eHA) hP hD hS (wHA_map _ _ _ _ _ _ _ _ _ _ _ _) (fun H locs hP hD hS => ?_)
      have hP : va_P G.1 vwCl (wX G ad σ (upT T ((o + n) % 5) σ) o n f x len) H := hP
      have hD : va_D (zA (wX G ad σ T o n f x len)) (wX G ad σ (upT T ((o + n) % 5) σ) o n f x len) := hD
      refine lv_aload_n hx hb dX4_settle_50 rfl (lv_at hl 0 rfl) ?_
      refine va_get (D := G.1) (ci := 4) (v := .ref (ad 1 0)) (C := RX4) (T := TX4) (N := 4) hx hb hts hinX4 hown hG.1 hP 0 rfl rfl 0 (by decide) hf10 (fun _ h9 => h9) rfl dX4_settle_51 ?_
      refine lv_iload_n hx hb dX4_settle_54 rfl (lv_at hl 1 rfl) ?_
      refine lv_iload_n hx hb dX4_settle_55 rfl (lv_at hl 2 rfl) ?_
      refine zwrEB (G := G) (va_runV (As := [.int (nI e), .int (nI (fS σ e))]) (rest := []) ⟨hx, hb, hml, hown, hts⟩ (kX0_settleFrom_f l G (ad 1) σ (fD σ e) (sS σ e) (sD σ e) e (fS σ e) hO he rfl rfl rfl rfl (zD_any (wX_dA hD))) (cwV 2 hts gX4_settle_X0_settleFrom rfl rfl rfl (by decide +kernel) ⟨Nat.le_of_ble_eq_true rfl, Nat.le_of_ble_eq_true rfl⟩) (zPreV hG (va_recv (q0 := 0) (ci := 0) hG.1 (wX_pA hP) rfl rfl) (wX_pA hP)) rfl rfl hl.1 rfl (lv_room (Nat.le_of_ble_eq_true rfl)) dX4_settle_56 ⟨Nat.le_of_ble_eq_true rfl, Nat.le_of_ble_eq_true rfl⟩) wX_eA hP hD hS (fun H locs hB hw hS => ?_)
      obtain ⟨τ, hτ⟩ := hB.1 hbad
      obtain ⟨hP, hD⟩ := hw (wA G (ad 1) τ) hτ (wA_mp _ _ _ _)
      have hP : va_P G.1 vwCl (wX G ad τ (upT T ((o + n) % 5) σ) o n f x len) H := by rw [wX_eA]; exact hP
      have hD : va_D (zA (wX G ad σ T o n f x len)) (wX G ad τ (upT T ((o + n) % 5) σ) o n f x len) := by rw [wX_eA]; exact hD
      refine lv_topi (nm_r (e' := (-2)) (if_pos hbad) ?_)
      refine lv_istore_n (lv' := [(3, .int (-2)), (0, .ref (ad 0 0)), (1, .int (nI e)), (2, .int (nI (fS σ e)))]) hx hb dX4_settle_59 rfl hl (by decide) rfl (fun ls hl => ?_)
      refine lv_iload_n hx hb dX4_settle_60 rfl (lv_at hl 0 rfl) ?_
      refine lv_bipush (v := (-2)) hx hb dX4_settle_61 (by decide) ?_
      refine lv_icmp_ne (tgt := 80) hx hb dX4_settle_63 (by decide) (fun h63 => ?_) (fun h63 => ?_)
      · skip
        exact absurd rfl h63
      · skip
        refine lv_aload_n hx hb dX4_settle_66 rfl (lv_at hl 1 rfl) ?_
        refine va_get (D := G.1) (ci := 4) (v := .ref (ad 2 0)) (C := RX4) (T := TX4) (N := 4) hx hb hts hinX4 hown hG.1 hP 0 rfl rfl 1 (by decide) hf19 (fun _ h9 => h9) rfl dX4_settle_67 ?_
        refine lv_aload_n hx hb dX4_settle_70 rfl (lv_at hl 1 rfl) ?_
        refine va_get (D := G.1) (ci := 4) (v := .ref (ad 1 0)) (C := RX4) (T := TX4) (N := 4) hx hb hts hinX4 hown hG.1 hP 0 rfl rfl 0 (by decide) hf10 (fun _ h9 => h9) rfl dX4_settle_71 ?_
        refine zwrEv (G := G) (wc' := (wHo G (ad 2) (aH ad) o n ++ (wTs G (aH ad) (upT T ((o + n) % 5) σ) 5 ++ wA G (ad 1) ((upT T ((o + n) % 5) σ) ((o + n) % 5))))) (ws' := (wX G ad ((upT T ((o + n) % 5) σ) ((o + n) % 5)) (upT T ((o + n) % 5) σ) o n f x len)) (va_runV (As := [.ref (ad 1 0)]) (rest := []) ⟨hx, hb, hml, hown, hts⟩ (kX2_returnToRecord l G (ad 2) (aH ad) o n (upT T ((o + n) % 5) σ) (ad 1) τ (by omega) (by omega) (zD_any (wX_dHA hD))) (cwV 1 hts gX4_settle_X2_returnToRecord rfl rfl rfl (by decide +kernel) ⟨Nat.le_of_ble_eq_true rfl, Nat.le_of_ble_eq_true rfl⟩) (zPreV hG (va_recv (q0 := 0) (ci := 2) hG.1 (wX_pH hP) rfl rfl) (wX_pHA hP)) rfl rfl hl.1 rfl (lv_room (Nat.le_of_ble_eq_true rfl)) dX4_settle_74 ⟨Nat.le_of_ble_eq_true rfl, Nat.le_of_ble_eq_true rfl⟩) (wX_eHA) (wX_eHA) hP hD hS (wHA_map _ _ _ _ _ _ _ _ _ _ _ _) (fun H locs hP hD hS => ?_)
        have hP : va_P G.1 vwCl (wX G ad ((upT T ((o + n) % 5) σ) ((o + n) % 5)) (upT T ((o + n) % 5) σ) o n f x len) H := hP
        have hD : va_D (zA (wX G ad σ T o n f x len)) (wX G ad ((upT T ((o + n) % 5) σ) ((o + n) % 5)) (upT T ((o + n) % 5) σ) o n f x len) := hD
        refine lv_bipush (v := (-2)) hx hb dX4_settle_77 (by decide) ?_
        exact hret _ _ _ _ _ dX4_settle_79 hS (by rw [upT_at] at hP; exact hP) (rfl)
    · skip
      have h22 : ¬ ((fS σ e) = (fS σ e)) := fun q => h22 ((nI_eq (by omega) (by omega)).mpr q)
      exfalso; omega
  · skip
    have h8 : ¬ (0 ≤ (nI e) ∧ (nI e) < nI (nE σ)) := (z_b0).mp h8
    exact absurd hve h8
set_option maxHeartbeats 4000000 in
set_option maxRecDepth 100000 in
theorem kX4_settle_s_ok (l : Launch) (G : zG) (ad : Nat → Nat → Nat) (σ : Nat → Nat) (T : Nat → Nat → Nat) (o n : Nat) (f : Nat → Int32) (x : Nat → Nat) (len : Nat) {N : Nat} (e : Nat) (hO : Ok N σ) (ho : o < 5) (hn : n ≤ 4) (he : e < nE σ) (hbad : ¬ sbd σ (sS σ e) (sD σ e) (fS σ e) (fD σ e) < 10) (hd : va_D (fun _ => True) (wX G ad σ T o n f x len)) : Met l yX4_settle wsX4_settle (zRm 4 104) (zPc G [.ref (ad 0 0), .int (nI e), .int (nI (sS σ e))] (va_P G.1 vwCl (wX G ad σ T o n f x len))) (zQ (zA (wX G ad σ T o n f x len)) (some (.int (nI (stc σ (sS σ e) (sD σ e) (fS σ e) (fD σ e) 10)))) (va_P G.1 vwCl (wX G ad (stE σ (sS σ e) (sD σ e) (fS σ e) (fD σ e)) (upT T ((o + n) % 5) σ) (nO o n) (nN n) f x len))) 0 0 (zA (wX G ad σ T o n f x len)) := by
  refine zmkWi (w := (wX G ad σ T o n f x len)) hd (cc := cX4_settle) (maxL := 4) (by decide) rfl (Nat.le_of_ble_eq_true rfl) ?_
  intro pr en st mi ar bl me cd ls Q hx hb hml hown hts hG hP hl hD hS hret
  have hown : st.vm.findClass RX4 = some mi.cls := hown
  have hl : lv_has ls 4 [(0, .ref (ad 0 0)), (1, .int (nI e)), (2, .int (nI (sS σ e)))] := hl
  have hP : va_P G.1 vwCl (wX G ad σ T o n f x len) st.heap := hP
  have hD : va_D (zA (wX G ad σ T o n f x len)) (wX G ad σ T o n f x len) := hD
  have hinX4 : ∀ w ∈ wsX40, w ∈ wsX4_settle := by decide +kernel
  have hf10 := hts (.fieldLink RX4 10 "MapSheets" "now" "LMapSheets$Atlas;") (by decide +kernel)
  have hf19 := hts (.fieldLink RX4 19 "MapSheets" "history" "LMapSheets$History;") (by decide +kernel)
  have hc := hO.c
  have hs := hO.lS
  have hr := hO.lR
  have hne := hO.lE
  have hve : 0 ≤ nI e ∧ nI e < nI (nE σ) := z_in he (by omega)
  have hlt : fS σ e < sS σ e := by unfold sS; have := hO.c; split <;> omega
  have hstc := stc_le σ (sS σ e) (sD σ e) (fS σ e) (fD σ e) 10
  have hfs := hO.lF he
  refine lv_aload_n hx hb dX4_settle_0 rfl (lv_at hl 0 rfl) ?_
  refine va_get (D := G.1) (ci := 4) (v := .ref (ad 1 0)) (C := RX4) (T := TX4) (N := 4) hx hb hts hinX4 hown hG.1 hP 0 rfl rfl 0 (by decide) hf10 (fun _ h9 => h9) rfl dX4_settle_1 ?_
  refine lv_iload_n hx hb dX4_settle_4 rfl (lv_at hl 1 rfl) ?_
  refine zrdV (As := [.int (nI e)]) ⟨hx, hb, hml, hown, hts⟩ (kX0_hasEdge l G (ad 1) σ (nI e) (hO)) (cwV 1 hts gX4_settle_X0_hasEdge rfl rfl rfl (by decide +kernel) ⟨Nat.le_of_ble_eq_true rfl, Nat.le_of_ble_eq_true rfl⟩) hG (va_recv (q0 := 0) (ci := 0) hG.1 (wX_pA hP) rfl rfl) ((wX_pA hP)) rfl rfl hl.1 dX4_settle_5 (Nat.le_of_ble_eq_true rfl) ⟨Nat.le_of_ble_eq_true rfl, Nat.le_of_ble_eq_true rfl⟩ ?_
  refine lv_if_ne (tgt := 13) hx hb dX4_settle_8 (by decide) (fun h8 => ?_) (fun h8 => ?_)
  · skip
    have h8 : ¬ (¬ (0 ≤ (nI e) ∧ (nI e) < nI (nE σ))) := fun q => h8 ((z_b0).mpr q)
    have h8 : 0 ≤ (nI e) ∧ (nI e) < nI (nE σ) := Decidable.of_not_not h8
    refine lv_iload_n hx hb dX4_settle_13 rfl (lv_at hl 2 rfl) ?_
    refine lv_aload_n hx hb dX4_settle_14 rfl (lv_at hl 0 rfl) ?_
    refine va_get (D := G.1) (ci := 4) (v := .ref (ad 1 0)) (C := RX4) (T := TX4) (N := 4) hx hb hts hinX4 hown hG.1 hP 0 rfl rfl 0 (by decide) hf10 (fun _ h9 => h9) rfl dX4_settle_15 ?_
    refine lv_iload_n hx hb dX4_settle_18 rfl (lv_at hl 1 rfl) ?_
    refine zrdV (As := [.int (nI e)]) ⟨hx, hb, hml, hown, hts⟩ (kX0_firstSheet l G (ad 1) σ e (hO) (by omega)) (cwV 1 hts gX4_settle_X0_firstSheet rfl rfl rfl (by decide +kernel) ⟨Nat.le_of_ble_eq_true rfl, Nat.le_of_ble_eq_true rfl⟩) hG (va_recv (q0 := 0) (ci := 0) hG.1 (wX_pA hP) rfl rfl) ((wX_pA hP)) rfl rfl hl.1 dX4_settle_19 (Nat.le_of_ble_eq_true rfl) ⟨Nat.le_of_ble_eq_true rfl, Nat.le_of_ble_eq_true rfl⟩ ?_
    have hf19_0 := hO.lF (show e < nE σ by omega)
    refine lv_icmp_eq (tgt := 39) hx hb dX4_settle_22 (by decide) (fun h22 => ?_) (fun h22 => ?_)
    · skip
      have h22 : (sS σ e) = (fS σ e) := (nI_eq (by omega) (by omega)).mp h22
      exfalso; omega
    · skip
      have h22 : ¬ ((sS σ e) = (fS σ e)) := fun q => h22 ((nI_eq (by omega) (by omega)).mpr q)
      refine lv_iload_n hx hb dX4_settle_25 rfl (lv_at hl 2 rfl) ?_
      refine lv_aload_n hx hb dX4_settle_26 rfl (lv_at hl 0 rfl) ?_
      refine va_get (D := G.1) (ci := 4) (v := .ref (ad 1 0)) (C := RX4) (T := TX4) (N := 4) hx hb hts hinX4 hown hG.1 hP 0 rfl rfl 0 (by decide) hf10 (fun _ h9 => h9) rfl dX4_settle_27 ?_
      refine lv_iload_n hx hb dX4_settle_30 rfl (lv_at hl 1 rfl) ?_
      refine zrdV (As := [.int (nI e)]) ⟨hx, hb, hml, hown, hts⟩ (kX0_secondSheet l G (ad 1) σ e (hO) (by omega)) (cwV 1 hts gX4_settle_X0_secondSheet rfl rfl rfl (by decide +kernel) ⟨Nat.le_of_ble_eq_true rfl, Nat.le_of_ble_eq_true rfl⟩) hG (va_recv (q0 := 0) (ci := 0) hG.1 (wX_pA hP) rfl rfl) ((wX_pA hP)) rfl rfl hl.1 dX4_settle_31 (Nat.le_of_ble_eq_true rfl) ⟨Nat.le_of_ble_eq_true rfl, Nat.le_of_ble_eq_true rfl⟩ ?_
      have hf31_0 := hO.lF (show e < nE σ by omega)
      refine lv_icmp_eq (tgt := 39) hx hb dX4_settle_34 (by decide) (fun h34 => ?_) (fun h34 => ?_)
      · skip
        have h34 : (sS σ e) = (sS σ e) := (nI_eq (by omega) (by omega)).mp h34
        refine lv_aload_n hx hb dX4_settle_39 rfl (lv_at hl 0 rfl) ?_
        refine va_get (D := G.1) (ci := 4) (v := .ref (ad 2 0)) (C := RX4) (T := TX4) (N := 4) hx hb hts hinX4 hown hG.1 hP 0 rfl rfl 1 (by decide) hf19 (fun _ h9 => h9) rfl dX4_settle_40 ?_
        refine lv_aload_n hx hb dX4_settle_43 rfl (lv_at hl 0 rfl) ?_
        refine va_get (D := G.1) (ci := 4) (v := .ref (ad 1 0)) (C := RX4) (T := TX4) (N := 4) hx hb hts hinX4 hown hG.1 hP 0 rfl rfl 0 (by decide) hf10 (fun _ h9 => h9) rfl dX4_settle_44 ?_
        refine zwrEv (G := G) (wc' := (wHo G (ad 2) (aH ad) o n ++ (wTs G (aH ad) (upT T ((o + n) % 5) σ) 5 ++ wA G (ad 1) σ))) (ws' := (wX G ad σ (upT T ((o + n) % 5) σ) o n f x len)) (va_runV (As := [.ref (ad 1 0)]) (rest := []) ⟨hx, hb, hml, hown, hts⟩ (kX2_recordState l G (ad 2) (aH ad) o n T (ad 1) σ (by omega) (by omega) (zD_any (wX_dHA hD))) (cwV 1 hts gX4_settle_X2_recordState rfl rfl rfl (by decide +kernel) ⟨Nat.le_of_ble_eq_true rfl, Nat.le_of_ble_eq_true rfl⟩) (zPreV hG (va_recv (q0 := 0) (ci := 2) hG.1 (wX_pH hP) rfl rfl) (wX_pHA hP)) rfl rfl hl.1 rfl (lv_room (Nat.le_of_ble_eq_true rfl)) dX4_settle_47 ⟨Nat.le_of_ble_eq_true rfl, Nat.le_of_ble_eq_true rfl⟩) (wX_eHA) (wX_eHA) hP hD hS (wHA_map _ _ _ _ _ _ _ _ _ _ _ _) (fun H locs hP hD hS => ?_)
        have hP : va_P G.1 vwCl (wX G ad σ (upT T ((o + n) % 5) σ) o n f x len) H := hP
        have hD : va_D (zA (wX G ad σ T o n f x len)) (wX G ad σ (upT T ((o + n) % 5) σ) o n f x len) := hD
        refine lv_aload_n hx hb dX4_settle_50 rfl (lv_at hl 0 rfl) ?_
        refine va_get (D := G.1) (ci := 4) (v := .ref (ad 1 0)) (C := RX4) (T := TX4) (N := 4) hx hb hts hinX4 hown hG.1 hP 0 rfl rfl 0 (by decide) hf10 (fun _ h9 => h9) rfl dX4_settle_51 ?_
        refine lv_iload_n hx hb dX4_settle_54 rfl (lv_at hl 1 rfl) ?_
        refine lv_iload_n hx hb dX4_settle_55 rfl (lv_at hl 2 rfl) ?_
        refine zwrEB (G := G) (va_runV (As := [.int (nI e), .int (nI (sS σ e))]) (rest := []) ⟨hx, hb, hml, hown, hts⟩ (kX0_settleFrom_s l G (ad 1) σ (sD σ e) (fS σ e) (fD σ e) e (sS σ e) hO he rfl rfl rfl rfl (zD_any (wX_dA hD))) (cwV 2 hts gX4_settle_X0_settleFrom rfl rfl rfl (by decide +kernel) ⟨Nat.le_of_ble_eq_true rfl, Nat.le_of_ble_eq_true rfl⟩) (zPreV hG (va_recv (q0 := 0) (ci := 0) hG.1 (wX_pA hP) rfl rfl) (wX_pA hP)) rfl rfl hl.1 rfl (lv_room (Nat.le_of_ble_eq_true rfl)) dX4_settle_56 ⟨Nat.le_of_ble_eq_true rfl, Nat.le_of_ble_eq_true rfl⟩) wX_eA hP hD hS (fun H locs hB hw hS => ?_)
        obtain ⟨hP, hD⟩ := hw (wA G (ad 1) (stE σ (sS σ e) (sD σ e) (fS σ e) (fD σ e))) (hB.2 hbad) (wA_mp _ _ _ _)
        have hP : va_P G.1 vwCl (wX G ad (stE σ (sS σ e) (sD σ e) (fS σ e) (fD σ e)) (upT T ((o + n) % 5) σ) o n f x len) H := by rw [wX_eA]; exact hP
        have hD : va_D (zA (wX G ad σ T o n f x len)) (wX G ad (stE σ (sS σ e) (sD σ e) (fS σ e) (fD σ e)) (upT T ((o + n) % 5) σ) o n f x len) := by rw [wX_eA]; exact hD
        refine lv_topi (nm_r (e' := nI (stc σ (sS σ e) (sD σ e) (fS σ e) (fD σ e) 10)) (if_neg hbad) ?_)
        refine lv_istore_n (lv' := [(3, .int (nI (stc σ (sS σ e) (sD σ e) (fS σ e) (fD σ e) 10))), (0, .ref (ad 0 0)), (1, .int (nI e)), (2, .int (nI (sS σ e)))]) hx hb dX4_settle_59 rfl hl (by decide) rfl (fun ls hl => ?_)
        refine lv_iload_n hx hb dX4_settle_60 rfl (lv_at hl 0 rfl) ?_
        refine lv_bipush (v := (-2)) hx hb dX4_settle_61 (by decide) ?_
        refine lv_icmp_ne (tgt := 80) hx hb dX4_settle_63 (by decide) (fun h63 => ?_) (fun h63 => ?_)
        · skip
          refine lv_aload_n hx hb dX4_settle_80 rfl (lv_at hl 1 rfl) ?_
          refine va_get (D := G.1) (ci := 4) (v := .ref (ad 2 0)) (C := RX4) (T := TX4) (N := 4) hx hb hts hinX4 hown hG.1 hP 0 rfl rfl 1 (by decide) hf19 (fun _ h9 => h9) rfl dX4_settle_81 ?_
          refine zwrEv (G := G) (wc' := (wHo G (ad 2) (aH ad) (nO o n) (nN n))) (ws' := (wX G ad (stE σ (sS σ e) (sD σ e) (fS σ e) (fD σ e)) (upT T ((o + n) % 5) σ) (nO o n) (nN n) f x len)) (va_runV (As := []) (rest := []) ⟨hx, hb, hml, hown, hts⟩ (kX2_keepRecord l G (ad 2) (aH ad) o n (by omega) (by omega) (zD_any (wX_dH hD))) (cwV 0 hts gX4_settle_X2_keepRecord rfl rfl rfl (by decide +kernel) ⟨Nat.le_of_ble_eq_true rfl, Nat.le_of_ble_eq_true rfl⟩) (zPreV hG (va_recv (q0 := 0) (ci := 2) hG.1 (wX_pH hP) rfl rfl) (wX_pH hP)) rfl rfl hl.1 rfl (lv_room (Nat.le_of_ble_eq_true rfl)) dX4_settle_84 ⟨Nat.le_of_ble_eq_true rfl, Nat.le_of_ble_eq_true rfl⟩) (wX_eH) (wX_eH) hP hD hS rfl (fun H locs hP hD hS => ?_)
          have hP : va_P G.1 vwCl (wX G ad (stE σ (sS σ e) (sD σ e) (fS σ e) (fD σ e)) (upT T ((o + n) % 5) σ) (nO o n) (nN n) f x len) H := hP
          have hD : va_D (zA (wX G ad σ T o n f x len)) (wX G ad (stE σ (sS σ e) (sD σ e) (fS σ e) (fD σ e)) (upT T ((o + n) % 5) σ) (nO o n) (nN n) f x len) := hD
          refine lv_iload_n hx hb dX4_settle_87 rfl (lv_at hl 0 rfl) ?_
          exact hret _ _ _ _ _ dX4_settle_88 hS (hP) (congrArg nI (rfl))
        · skip
          exact absurd h63 (z_m2 (by omega))
      · skip
        have h34 : ¬ ((sS σ e) = (sS σ e)) := fun q => h34 ((nI_eq (by omega) (by omega)).mpr q)
        exfalso; omega
  · skip
    have h8 : ¬ (0 ≤ (nI e) ∧ (nI e) < nI (nE σ)) := (z_b0).mp h8
    exact absurd hve h8
set_option maxHeartbeats 4000000 in
set_option maxRecDepth 100000 in
theorem kX4_settle_s_no (l : Launch) (G : zG) (ad : Nat → Nat → Nat) (σ : Nat → Nat) (T : Nat → Nat → Nat) (o n : Nat) (f : Nat → Int32) (x : Nat → Nat) (len : Nat) {N : Nat} (e : Nat) (hO : Ok N σ) (ho : o < 5) (hn : n ≤ 4) (he : e < nE σ) (hbad : sbd σ (sS σ e) (sD σ e) (fS σ e) (fD σ e) < 10) (hd : va_D (fun _ => True) (wX G ad σ T o n f x len)) : Met l yX4_settle wsX4_settle (zRm 4 104) (zPc G [.ref (ad 0 0), .int (nI e), .int (nI (sS σ e))] (va_P G.1 vwCl (wX G ad σ T o n f x len))) (zQ (zA (wX G ad σ T o n f x len)) (some (.int ((-2)))) (va_P G.1 vwCl (wX G ad σ (upT T ((o + n) % 5) σ) o n f x len))) 0 0 (zA (wX G ad σ T o n f x len)) := by
  refine zmkWi (w := (wX G ad σ T o n f x len)) hd (cc := cX4_settle) (maxL := 4) (by decide) rfl (Nat.le_of_ble_eq_true rfl) ?_
  intro pr en st mi ar bl me cd ls Q hx hb hml hown hts hG hP hl hD hS hret
  have hown : st.vm.findClass RX4 = some mi.cls := hown
  have hl : lv_has ls 4 [(0, .ref (ad 0 0)), (1, .int (nI e)), (2, .int (nI (sS σ e)))] := hl
  have hP : va_P G.1 vwCl (wX G ad σ T o n f x len) st.heap := hP
  have hD : va_D (zA (wX G ad σ T o n f x len)) (wX G ad σ T o n f x len) := hD
  have hinX4 : ∀ w ∈ wsX40, w ∈ wsX4_settle := by decide +kernel
  have hf10 := hts (.fieldLink RX4 10 "MapSheets" "now" "LMapSheets$Atlas;") (by decide +kernel)
  have hf19 := hts (.fieldLink RX4 19 "MapSheets" "history" "LMapSheets$History;") (by decide +kernel)
  have hc := hO.c
  have hs := hO.lS
  have hr := hO.lR
  have hne := hO.lE
  have hve : 0 ≤ nI e ∧ nI e < nI (nE σ) := z_in he (by omega)
  have hlt : fS σ e < sS σ e := by unfold sS; have := hO.c; split <;> omega
  have hstc := stc_le σ (sS σ e) (sD σ e) (fS σ e) (fD σ e) 10
  have hfs := hO.lF he
  refine lv_aload_n hx hb dX4_settle_0 rfl (lv_at hl 0 rfl) ?_
  refine va_get (D := G.1) (ci := 4) (v := .ref (ad 1 0)) (C := RX4) (T := TX4) (N := 4) hx hb hts hinX4 hown hG.1 hP 0 rfl rfl 0 (by decide) hf10 (fun _ h9 => h9) rfl dX4_settle_1 ?_
  refine lv_iload_n hx hb dX4_settle_4 rfl (lv_at hl 1 rfl) ?_
  refine zrdV (As := [.int (nI e)]) ⟨hx, hb, hml, hown, hts⟩ (kX0_hasEdge l G (ad 1) σ (nI e) (hO)) (cwV 1 hts gX4_settle_X0_hasEdge rfl rfl rfl (by decide +kernel) ⟨Nat.le_of_ble_eq_true rfl, Nat.le_of_ble_eq_true rfl⟩) hG (va_recv (q0 := 0) (ci := 0) hG.1 (wX_pA hP) rfl rfl) ((wX_pA hP)) rfl rfl hl.1 dX4_settle_5 (Nat.le_of_ble_eq_true rfl) ⟨Nat.le_of_ble_eq_true rfl, Nat.le_of_ble_eq_true rfl⟩ ?_
  refine lv_if_ne (tgt := 13) hx hb dX4_settle_8 (by decide) (fun h8 => ?_) (fun h8 => ?_)
  · skip
    have h8 : ¬ (¬ (0 ≤ (nI e) ∧ (nI e) < nI (nE σ))) := fun q => h8 ((z_b0).mpr q)
    have h8 : 0 ≤ (nI e) ∧ (nI e) < nI (nE σ) := Decidable.of_not_not h8
    refine lv_iload_n hx hb dX4_settle_13 rfl (lv_at hl 2 rfl) ?_
    refine lv_aload_n hx hb dX4_settle_14 rfl (lv_at hl 0 rfl) ?_
    refine va_get (D := G.1) (ci := 4) (v := .ref (ad 1 0)) (C := RX4) (T := TX4) (N := 4) hx hb hts hinX4 hown hG.1 hP 0 rfl rfl 0 (by decide) hf10 (fun _ h9 => h9) rfl dX4_settle_15 ?_
    refine lv_iload_n hx hb dX4_settle_18 rfl (lv_at hl 1 rfl) ?_
    refine zrdV (As := [.int (nI e)]) ⟨hx, hb, hml, hown, hts⟩ (kX0_firstSheet l G (ad 1) σ e (hO) (by omega)) (cwV 1 hts gX4_settle_X0_firstSheet rfl rfl rfl (by decide +kernel) ⟨Nat.le_of_ble_eq_true rfl, Nat.le_of_ble_eq_true rfl⟩) hG (va_recv (q0 := 0) (ci := 0) hG.1 (wX_pA hP) rfl rfl) ((wX_pA hP)) rfl rfl hl.1 dX4_settle_19 (Nat.le_of_ble_eq_true rfl) ⟨Nat.le_of_ble_eq_true rfl, Nat.le_of_ble_eq_true rfl⟩ ?_
    have hf19_0 := hO.lF (show e < nE σ by omega)
    refine lv_icmp_eq (tgt := 39) hx hb dX4_settle_22 (by decide) (fun h22 => ?_) (fun h22 => ?_)
    · skip
      have h22 : (sS σ e) = (fS σ e) := (nI_eq (by omega) (by omega)).mp h22
      exfalso; omega
    · skip
      have h22 : ¬ ((sS σ e) = (fS σ e)) := fun q => h22 ((nI_eq (by omega) (by omega)).mpr q)
      refine lv_iload_n hx hb dX4_settle_25 rfl (lv_at hl 2 rfl) ?_
      refine lv_aload_n hx hb dX4_settle_26 rfl (lv_at hl 0 rfl) ?_
      refine va_get (D := G.1) (ci := 4) (v := .ref (ad 1 0)) (C := RX4) (T := TX4) (N := 4) hx hb hts hinX4 hown hG.1 hP 0 rfl rfl 0 (by decide) hf10 (fun _ h9 => h9) rfl dX4_settle_27 ?_
      refine lv_iload_n hx hb dX4_settle_30 rfl (lv_at hl 1 rfl) ?_
      refine zrdV (As := [.int (nI e)]) ⟨hx, hb, hml, hown, hts⟩ (kX0_secondSheet l G (ad 1) σ e (hO) (by omega)) (cwV 1 hts gX4_settle_X0_secondSheet rfl rfl rfl (by decide +kernel) ⟨Nat.le_of_ble_eq_true rfl, Nat.le_of_ble_eq_true rfl⟩) hG (va_recv (q0 := 0) (ci := 0) hG.1 (wX_pA hP) rfl rfl) ((wX_pA hP)) rfl rfl hl.1 dX4_settle_31 (Nat.le_of_ble_eq_true rfl) ⟨Nat.le_of_ble_eq_true rfl, Nat.le_of_ble_eq_true rfl⟩ ?_
      have hf31_0 := hO.lF (show e < nE σ by omega)
      refine lv_icmp_eq (tgt := 39) hx hb dX4_settle_34 (by decide) (fun h34 => ?_) (fun h34 => ?_)
      · skip
        have h34 : (sS σ e) = (sS σ e) := (nI_eq (by omega) (by omega)).mp h34
        refine lv_aload_n hx hb dX4_settle_39 rfl (lv_at hl 0 rfl) ?_
        refine va_get (D := G.1) (ci := 4) (v := .ref (ad 2 0)) (C := RX4) (T := TX4) (N := 4) hx hb hts hinX4 hown hG.1 hP 0 rfl rfl 1 (by decide) hf19 (fun _ h9 => h9) rfl dX4_settle_40 ?_
        refine lv_aload_n hx hb dX4_settle_43 rfl (lv_at hl 0 rfl) ?_
        refine va_get (D := G.1) (ci := 4) (v := .ref (ad 1 0)) (C := RX4) (T := TX4) (N := 4) hx hb hts hinX4 hown hG.1 hP 0 rfl rfl 0 (by decide) hf10 (fun _ h9 => h9) rfl dX4_settle_44 ?_
        refine zwrEv (G := G) (wc' := (wHo G (ad 2) (aH ad) o n ++ (wTs G (aH ad) (upT T ((o + n) % 5) σ) 5 ++ wA G (ad 1) σ))) (ws' := (wX G ad σ (upT T ((o + n) % 5) σ) o n f x len)) (va_runV (As := [.ref (ad 1 0)]) (rest := []) ⟨hx, hb, hml, hown, hts⟩ (kX2_recordState l G (ad 2) (aH ad) o n T (ad 1) σ (by omega) (by omega) (zD_any (wX_dHA hD))) (cwV 1 hts gX4_settle_X2_recordState rfl rfl rfl (by decide +kernel) ⟨Nat.le_of_ble_eq_true rfl, Nat.le_of_ble_eq_true rfl⟩) (zPreV hG (va_recv (q0 := 0) (ci := 2) hG.1 (wX_pH hP) rfl rfl) (wX_pHA hP)) rfl rfl hl.1 rfl (lv_room (Nat.le_of_ble_eq_true rfl)) dX4_settle_47 ⟨Nat.le_of_ble_eq_true rfl, Nat.le_of_ble_eq_true rfl⟩) (wX_eHA) (wX_eHA) hP hD hS (wHA_map _ _ _ _ _ _ _ _ _ _ _ _) (fun H locs hP hD hS => ?_)
        have hP : va_P G.1 vwCl (wX G ad σ (upT T ((o + n) % 5) σ) o n f x len) H := hP
        have hD : va_D (zA (wX G ad σ T o n f x len)) (wX G ad σ (upT T ((o + n) % 5) σ) o n f x len) := hD
        refine lv_aload_n hx hb dX4_settle_50 rfl (lv_at hl 0 rfl) ?_
        refine va_get (D := G.1) (ci := 4) (v := .ref (ad 1 0)) (C := RX4) (T := TX4) (N := 4) hx hb hts hinX4 hown hG.1 hP 0 rfl rfl 0 (by decide) hf10 (fun _ h9 => h9) rfl dX4_settle_51 ?_
        refine lv_iload_n hx hb dX4_settle_54 rfl (lv_at hl 1 rfl) ?_
        refine lv_iload_n hx hb dX4_settle_55 rfl (lv_at hl 2 rfl) ?_
        refine zwrEB (G := G) (va_runV (As := [.int (nI e), .int (nI (sS σ e))]) (rest := []) ⟨hx, hb, hml, hown, hts⟩ (kX0_settleFrom_s l G (ad 1) σ (sD σ e) (fS σ e) (fD σ e) e (sS σ e) hO he rfl rfl rfl rfl (zD_any (wX_dA hD))) (cwV 2 hts gX4_settle_X0_settleFrom rfl rfl rfl (by decide +kernel) ⟨Nat.le_of_ble_eq_true rfl, Nat.le_of_ble_eq_true rfl⟩) (zPreV hG (va_recv (q0 := 0) (ci := 0) hG.1 (wX_pA hP) rfl rfl) (wX_pA hP)) rfl rfl hl.1 rfl (lv_room (Nat.le_of_ble_eq_true rfl)) dX4_settle_56 ⟨Nat.le_of_ble_eq_true rfl, Nat.le_of_ble_eq_true rfl⟩) wX_eA hP hD hS (fun H locs hB hw hS => ?_)
        obtain ⟨τ, hτ⟩ := hB.1 hbad
        obtain ⟨hP, hD⟩ := hw (wA G (ad 1) τ) hτ (wA_mp _ _ _ _)
        have hP : va_P G.1 vwCl (wX G ad τ (upT T ((o + n) % 5) σ) o n f x len) H := by rw [wX_eA]; exact hP
        have hD : va_D (zA (wX G ad σ T o n f x len)) (wX G ad τ (upT T ((o + n) % 5) σ) o n f x len) := by rw [wX_eA]; exact hD
        refine lv_topi (nm_r (e' := (-2)) (if_pos hbad) ?_)
        refine lv_istore_n (lv' := [(3, .int (-2)), (0, .ref (ad 0 0)), (1, .int (nI e)), (2, .int (nI (sS σ e)))]) hx hb dX4_settle_59 rfl hl (by decide) rfl (fun ls hl => ?_)
        refine lv_iload_n hx hb dX4_settle_60 rfl (lv_at hl 0 rfl) ?_
        refine lv_bipush (v := (-2)) hx hb dX4_settle_61 (by decide) ?_
        refine lv_icmp_ne (tgt := 80) hx hb dX4_settle_63 (by decide) (fun h63 => ?_) (fun h63 => ?_)
        · skip
          exact absurd rfl h63
        · skip
          refine lv_aload_n hx hb dX4_settle_66 rfl (lv_at hl 1 rfl) ?_
          refine va_get (D := G.1) (ci := 4) (v := .ref (ad 2 0)) (C := RX4) (T := TX4) (N := 4) hx hb hts hinX4 hown hG.1 hP 0 rfl rfl 1 (by decide) hf19 (fun _ h9 => h9) rfl dX4_settle_67 ?_
          refine lv_aload_n hx hb dX4_settle_70 rfl (lv_at hl 1 rfl) ?_
          refine va_get (D := G.1) (ci := 4) (v := .ref (ad 1 0)) (C := RX4) (T := TX4) (N := 4) hx hb hts hinX4 hown hG.1 hP 0 rfl rfl 0 (by decide) hf10 (fun _ h9 => h9) rfl dX4_settle_71 ?_
          refine zwrEv (G := G) (wc' := (wHo G (ad 2) (aH ad) o n ++ (wTs G (aH ad) (upT T ((o + n) % 5) σ) 5 ++ wA G (ad 1) ((upT T ((o + n) % 5) σ) ((o + n) % 5))))) (ws' := (wX G ad ((upT T ((o + n) % 5) σ) ((o + n) % 5)) (upT T ((o + n) % 5) σ) o n f x len)) (va_runV (As := [.ref (ad 1 0)]) (rest := []) ⟨hx, hb, hml, hown, hts⟩ (kX2_returnToRecord l G (ad 2) (aH ad) o n (upT T ((o + n) % 5) σ) (ad 1) τ (by omega) (by omega) (zD_any (wX_dHA hD))) (cwV 1 hts gX4_settle_X2_returnToRecord rfl rfl rfl (by decide +kernel) ⟨Nat.le_of_ble_eq_true rfl, Nat.le_of_ble_eq_true rfl⟩) (zPreV hG (va_recv (q0 := 0) (ci := 2) hG.1 (wX_pH hP) rfl rfl) (wX_pHA hP)) rfl rfl hl.1 rfl (lv_room (Nat.le_of_ble_eq_true rfl)) dX4_settle_74 ⟨Nat.le_of_ble_eq_true rfl, Nat.le_of_ble_eq_true rfl⟩) (wX_eHA) (wX_eHA) hP hD hS (wHA_map _ _ _ _ _ _ _ _ _ _ _ _) (fun H locs hP hD hS => ?_)
          have hP : va_P G.1 vwCl (wX G ad ((upT T ((o + n) % 5) σ) ((o + n) % 5)) (upT T ((o + n) % 5) σ) o n f x len) H := hP
          have hD : va_D (zA (wX G ad σ T o n f x len)) (wX G ad ((upT T ((o + n) % 5) σ) ((o + n) % 5)) (upT T ((o + n) % 5) σ) o n f x len) := hD
          refine lv_bipush (v := (-2)) hx hb dX4_settle_77 (by decide) ?_
          exact hret _ _ _ _ _ dX4_settle_79 hS (by rw [upT_at] at hP; exact hP) (rfl)
      · skip
        have h34 : ¬ ((sS σ e) = (sS σ e)) := fun q => h34 ((nI_eq (by omega) (by omega)).mpr q)
        exfalso; omega
  · skip
    have h8 : ¬ (0 ≤ (nI e) ∧ (nI e) < nI (nE σ)) := (z_b0).mp h8
    exact absurd hve h8
