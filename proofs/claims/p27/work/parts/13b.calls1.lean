set_option maxHeartbeats 4000000 in
set_option maxRecDepth 100000 in
theorem kX4_show_inv (l : Launch) (G : zG) (ad : Nat → Nat → Nat) (σ : Nat → Nat) (T : Nat → Nat → Nat) (o n : Nat) (f : Nat → Int32) (x : Nat → Nat) (len : Nat) {N : Nat} (x1 : Int32) (x2 : Int32) (x3 : Int32) (x4 : Int32) (hO : Ok N σ) (ho : o < 5) (hn : n ≤ 4) (hv : ¬ (((0 ≤ x1 ∧ x1 < nI (nS σ)) ∧ (0 ≤ x2 ∧ x2 ≤ 3) ∧ (0 ≤ x3 ∧ x3 ≤ 9)) ∧ (nI 0 ≤ x4 ∧ x4 ≤ nI 9))) (hd : va_D (fun _ => True) (wX G ad σ T o n f x len)) : Met l yX4_show wsX4_show (zRm 6 138) (zPc G [.ref (ad 0 0), .int x1, .int x2, .int x3, .int x4] (va_P G.1 vwCl (wX G ad σ T o n f x len))) (zQ (zA (wX G ad σ T o n f x len)) (some (.int ((-1)))) (va_P G.1 vwCl (wX G ad σ T o n f x len))) 0 0 (zA (wX G ad σ T o n f x len)) := by
  refine zmkWi (w := (wX G ad σ T o n f x len)) hd (cc := cX4_show) (maxL := 6) (by decide) rfl (Nat.le_of_ble_eq_true rfl) ?_
  intro pr en st mi ar bl me cd ls Q hx hb hml hown hts hG hP hl hD hS hret
  have hown : st.vm.findClass RX4 = some mi.cls := hown
  have hl : lv_has ls 6 [(0, .ref (ad 0 0)), (1, .int x1), (2, .int x2), (3, .int x3), (4, .int x4)] := hl
  have hP : va_P G.1 vwCl (wX G ad σ T o n f x len) st.heap := hP
  have hD : va_D (zA (wX G ad σ T o n f x len)) (wX G ad σ T o n f x len) := hD
  have hinX4 : ∀ w ∈ wsX40, w ∈ wsX4_show := by decide +kernel
  have hf10 := hts (.fieldLink RX4 10 "MapSheets" "now" "LMapSheets$Atlas;") (by decide +kernel)
  have hc := hO.c
  have hs := hO.lS
  have hr := hO.lR
  have hne := hO.lE
  refine lv_aload_n hx hb dX4_show_0 rfl (lv_at hl 0 rfl) ?_
  refine va_get (D := G.1) (ci := 4) (v := .ref (ad 1 0)) (C := RX4) (T := TX4) (N := 4) hx hb hts hinX4 hown hG.1 hP 0 rfl rfl 0 (by decide) hf10 (fun _ h9 => h9) rfl dX4_show_1 ?_
  refine lv_iload_n hx hb dX4_show_4 rfl (lv_at hl 1 rfl) ?_
  refine lv_iload_n hx hb dX4_show_5 rfl (lv_at hl 2 rfl) ?_
  refine lv_iload_n hx hb dX4_show_6 rfl (lv_at hl 3 rfl) ?_
  refine zrdV (As := [.int x1, .int x2, .int x3]) ⟨hx, hb, hml, hown, hts⟩ (kX0_hasPlace l G (ad 1) σ x1 x2 x3) (cwV 3 hts gX4_show_X0_hasPlace rfl rfl rfl (by decide +kernel) ⟨Nat.le_of_ble_eq_true rfl, Nat.le_of_ble_eq_true rfl⟩) hG (va_recv (q0 := 0) (ci := 0) hG.1 (wX_pA hP) rfl rfl) ((wX_pA hP)) rfl rfl hl.1 dX4_show_7 (Nat.le_of_ble_eq_true rfl) ⟨Nat.le_of_ble_eq_true rfl, Nat.le_of_ble_eq_true rfl⟩ ?_
  refine lv_if_eq (tgt := 21) hx hb dX4_show_10 (by decide) (fun h10 => ?_) (fun h10 => ?_)
  · skip
    have h10 : ¬ ((0 ≤ x1 ∧ x1 < nI (nS σ)) ∧ (0 ≤ x2 ∧ x2 ≤ 3) ∧ (0 ≤ x3 ∧ x3 ≤ 9)) := (z_b0).mp h10
    refine lv_iconst (v := (-1)) hx hb dX4_show_21 (by decide) ?_
    exact hret _ _ _ _ _ dX4_show_22 hS (hP) (rfl)
  · skip
    have h10 : ¬ (¬ ((0 ≤ x1 ∧ x1 < nI (nS σ)) ∧ (0 ≤ x2 ∧ x2 ≤ 3) ∧ (0 ≤ x3 ∧ x3 ≤ 9))) := fun q => h10 ((z_b0).mpr q)
    have h10 : (0 ≤ x1 ∧ x1 < nI (nS σ)) ∧ (0 ≤ x2 ∧ x2 ≤ 3) ∧ (0 ≤ x3 ∧ x3 ≤ 9) := Decidable.of_not_not h10
    refine lv_iload hx hb dX4_show_13 (lv_at hl 4 rfl) ?_
    refine zrdS (As := [.int x4]) ⟨hx, hb, hml, hown, hts⟩ (kX4_isDigit l G  x4) (va_cwS 1 hts gX4_show_X4_isDigit rfl rfl rfl (by decide +kernel) ⟨Nat.le_of_ble_eq_true rfl, Nat.le_of_ble_eq_true rfl⟩) hG (trivial) rfl rfl hl.1 dX4_show_15 (Nat.le_of_ble_eq_true rfl) ⟨Nat.le_of_ble_eq_true rfl, Nat.le_of_ble_eq_true rfl⟩ ?_
    refine lv_if_ne (tgt := 23) hx hb dX4_show_18 (by decide) (fun h18 => ?_) (fun h18 => ?_)
    · skip
      have h18 : ¬ (¬ (nI 0 ≤ x4 ∧ x4 ≤ nI 9)) := fun q => h18 ((z_b0).mpr q)
      have h18 : nI 0 ≤ x4 ∧ x4 ≤ nI 9 := Decidable.of_not_not h18
      exact absurd ⟨h10, h18⟩ hv
    · skip
      have h18 : ¬ (nI 0 ≤ x4 ∧ x4 ≤ nI 9) := (z_b0).mp h18
      refine lv_iconst (v := (-1)) hx hb dX4_show_21 (by decide) ?_
      exact hret _ _ _ _ _ dX4_show_22 hS (hP) (rfl)
set_option maxHeartbeats 4000000 in
set_option maxRecDepth 100000 in
theorem kX4_show_ok (l : Launch) (G : zG) (ad : Nat → Nat → Nat) (σ : Nat → Nat) (T : Nat → Nat → Nat) (o n : Nat) (f : Nat → Int32) (x : Nat → Nat) (len : Nat) {N : Nat} (k : Nat) (d : Nat) (p : Nat) (v : Nat) (hO : Ok N σ) (ho : o < 5) (hn : n ≤ 4) (hk : k < nS σ) (hd4 : d < 4) (hp : p < 10) (hv9 : v < 10) (hrf : ¬ rfsd (su σ (64 + 53 * k + (10 * d + p)) v) k) (hd : va_D (fun _ => True) (wX G ad σ T o n f x len)) : Met l yX4_show wsX4_show (zRm 6 138) (zPc G [.ref (ad 0 0), .int (nI k), .int (nI d), .int (nI p), .int (nI v)] (va_P G.1 vwCl (wX G ad σ T o n f x len))) (zQ (zA (wX G ad σ T o n f x len)) (some (.int (nI (sgn σ k d p)))) (va_P G.1 vwCl (wX G ad (endS (su σ (64 + 53 * k + (10 * d + p)) v) k) (upT T ((o + n) % 5) σ) (nO o n) (nN n) f x len))) 0 0 (zA (wX G ad σ T o n f x len)) := by
  refine zmkWi (w := (wX G ad σ T o n f x len)) hd (cc := cX4_show) (maxL := 6) (by decide) rfl (Nat.le_of_ble_eq_true rfl) ?_
  intro pr en st mi ar bl me cd ls Q hx hb hml hown hts hG hP hl hD hS hret
  have hown : st.vm.findClass RX4 = some mi.cls := hown
  have hl : lv_has ls 6 [(0, .ref (ad 0 0)), (1, .int (nI k)), (2, .int (nI d)), (3, .int (nI p)), (4, .int (nI v))] := hl
  have hP : va_P G.1 vwCl (wX G ad σ T o n f x len) st.heap := hP
  have hD : va_D (zA (wX G ad σ T o n f x len)) (wX G ad σ T o n f x len) := hD
  have hinX4 : ∀ w ∈ wsX40, w ∈ wsX4_show := by decide +kernel
  have hf10 := hts (.fieldLink RX4 10 "MapSheets" "now" "LMapSheets$Atlas;") (by decide +kernel)
  have hf19 := hts (.fieldLink RX4 19 "MapSheets" "history" "LMapSheets$History;") (by decide +kernel)
  have hc := hO.c
  have hs := hO.lS
  have hr := hO.lR
  have hne := hO.lE
  have hvp : (0 ≤ nI k ∧ nI k < nI (nS σ)) ∧ (0 ≤ nI d ∧ nI d ≤ 3) ∧ (0 ≤ nI p ∧ nI p ≤ 9) := ⟨z_in hk (by omega), z_lem (m := 3) (by omega) (by omega), z_lem (m := 9) (by omega) (by omega)⟩
  have hvd : nI 0 ≤ nI v ∧ nI v ≤ nI 9 := z_lem (by omega) (by omega)
  refine lv_aload_n hx hb dX4_show_0 rfl (lv_at hl 0 rfl) ?_
  refine va_get (D := G.1) (ci := 4) (v := .ref (ad 1 0)) (C := RX4) (T := TX4) (N := 4) hx hb hts hinX4 hown hG.1 hP 0 rfl rfl 0 (by decide) hf10 (fun _ h9 => h9) rfl dX4_show_1 ?_
  refine lv_iload_n hx hb dX4_show_4 rfl (lv_at hl 1 rfl) ?_
  refine lv_iload_n hx hb dX4_show_5 rfl (lv_at hl 2 rfl) ?_
  refine lv_iload_n hx hb dX4_show_6 rfl (lv_at hl 3 rfl) ?_
  refine zrdV (As := [.int (nI k), .int (nI d), .int (nI p)]) ⟨hx, hb, hml, hown, hts⟩ (kX0_hasPlace l G (ad 1) σ (nI k) (nI d) (nI p)) (cwV 3 hts gX4_show_X0_hasPlace rfl rfl rfl (by decide +kernel) ⟨Nat.le_of_ble_eq_true rfl, Nat.le_of_ble_eq_true rfl⟩) hG (va_recv (q0 := 0) (ci := 0) hG.1 (wX_pA hP) rfl rfl) ((wX_pA hP)) rfl rfl hl.1 dX4_show_7 (Nat.le_of_ble_eq_true rfl) ⟨Nat.le_of_ble_eq_true rfl, Nat.le_of_ble_eq_true rfl⟩ ?_
  refine lv_if_eq (tgt := 21) hx hb dX4_show_10 (by decide) (fun h10 => ?_) (fun h10 => ?_)
  · skip
    have h10 : ¬ ((0 ≤ (nI k) ∧ (nI k) < nI (nS σ)) ∧ (0 ≤ (nI d) ∧ (nI d) ≤ 3) ∧ (0 ≤ (nI p) ∧ (nI p) ≤ 9)) := (z_b0).mp h10
    exact absurd hvp h10
  · skip
    have h10 : ¬ (¬ ((0 ≤ (nI k) ∧ (nI k) < nI (nS σ)) ∧ (0 ≤ (nI d) ∧ (nI d) ≤ 3) ∧ (0 ≤ (nI p) ∧ (nI p) ≤ 9))) := fun q => h10 ((z_b0).mpr q)
    have h10 : (0 ≤ (nI k) ∧ (nI k) < nI (nS σ)) ∧ (0 ≤ (nI d) ∧ (nI d) ≤ 3) ∧ (0 ≤ (nI p) ∧ (nI p) ≤ 9) := Decidable.of_not_not h10
    refine lv_iload hx hb dX4_show_13 (lv_at hl 4 rfl) ?_
    refine zrdS (As := [.int (nI v)]) ⟨hx, hb, hml, hown, hts⟩ (kX4_isDigit l G  (nI v)) (va_cwS 1 hts gX4_show_X4_isDigit rfl rfl rfl (by decide +kernel) ⟨Nat.le_of_ble_eq_true rfl, Nat.le_of_ble_eq_true rfl⟩) hG (trivial) rfl rfl hl.1 dX4_show_15 (Nat.le_of_ble_eq_true rfl) ⟨Nat.le_of_ble_eq_true rfl, Nat.le_of_ble_eq_true rfl⟩ ?_
    refine lv_if_ne (tgt := 23) hx hb dX4_show_18 (by decide) (fun h18 => ?_) (fun h18 => ?_)
    · skip
      have h18 : ¬ (¬ (nI 0 ≤ (nI v) ∧ (nI v) ≤ nI 9)) := fun q => h18 ((z_b0).mpr q)
      have h18 : nI 0 ≤ (nI v) ∧ (nI v) ≤ nI 9 := Decidable.of_not_not h18
      refine lv_aload_n hx hb dX4_show_23 rfl (lv_at hl 0 rfl) ?_
      refine va_get (D := G.1) (ci := 4) (v := .ref (ad 2 0)) (C := RX4) (T := TX4) (N := 4) hx hb hts hinX4 hown hG.1 hP 0 rfl rfl 1 (by decide) hf19 (fun _ h9 => h9) rfl dX4_show_24 ?_
      refine lv_aload_n hx hb dX4_show_27 rfl (lv_at hl 0 rfl) ?_
      refine va_get (D := G.1) (ci := 4) (v := .ref (ad 1 0)) (C := RX4) (T := TX4) (N := 4) hx hb hts hinX4 hown hG.1 hP 0 rfl rfl 0 (by decide) hf10 (fun _ h9 => h9) rfl dX4_show_28 ?_
      refine zwrEv (G := G) (wc' := (wHo G (ad 2) (aH ad) o n ++ (wTs G (aH ad) (upT T ((o + n) % 5) σ) 5 ++ wA G (ad 1) σ))) (ws' := (wX G ad σ (upT T ((o + n) % 5) σ) o n f x len)) (va_runV (As := [.ref (ad 1 0)]) (rest := []) ⟨hx, hb, hml, hown, hts⟩ (kX2_recordState l G (ad 2) (aH ad) o n T (ad 1) σ (by omega) (by omega) (zD_any (wX_dHA hD))) (cwV 1 hts gX4_show_X2_recordState rfl rfl rfl (by decide +kernel) ⟨Nat.le_of_ble_eq_true rfl, Nat.le_of_ble_eq_true rfl⟩) (zPreV hG (va_recv (q0 := 0) (ci := 2) hG.1 (wX_pH hP) rfl rfl) (wX_pHA hP)) rfl rfl hl.1 rfl (lv_room (Nat.le_of_ble_eq_true rfl)) dX4_show_31 ⟨Nat.le_of_ble_eq_true rfl, Nat.le_of_ble_eq_true rfl⟩) (wX_eHA) (wX_eHA) hP hD hS (wHA_map _ _ _ _ _ _ _ _ _ _ _ _) (fun H locs hP hD hS => ?_)
      have hP : va_P G.1 vwCl (wX G ad σ (upT T ((o + n) % 5) σ) o n f x len) H := hP
      have hD : va_D (zA (wX G ad σ T o n f x len)) (wX G ad σ (upT T ((o + n) % 5) σ) o n f x len) := hD
      refine lv_aload_n hx hb dX4_show_34 rfl (lv_at hl 0 rfl) ?_
      refine va_get (D := G.1) (ci := 4) (v := .ref (ad 1 0)) (C := RX4) (T := TX4) (N := 4) hx hb hts hinX4 hown hG.1 hP 0 rfl rfl 0 (by decide) hf10 (fun _ h9 => h9) rfl dX4_show_35 ?_
      refine lv_iload_n hx hb dX4_show_38 rfl (lv_at hl 1 rfl) ?_
      refine lv_iload_n hx hb dX4_show_39 rfl (lv_at hl 2 rfl) ?_
      refine lv_iload_n hx hb dX4_show_40 rfl (lv_at hl 3 rfl) ?_
      refine lv_iload hx hb dX4_show_41 (lv_at hl 4 rfl) ?_
      refine zwrE (G := G) (wc' := (wA G (ad 1) (su σ (64 + 53 * k + (10 * d + p)) v))) (ws' := (wX G ad (su σ (64 + 53 * k + (10 * d + p)) v) (upT T ((o + n) % 5) σ) o n f x len)) (va_runV (As := [.int (nI k), .int (nI d), .int (nI p), .int (nI v)]) (rest := []) ⟨hx, hb, hml, hown, hts⟩ (kX0_putSign l G (ad 1) σ k d p v (by omega) (by omega) (by omega) (zD_any (wX_dA hD))) (cwV 4 hts gX4_show_X0_putSign rfl rfl rfl (by decide +kernel) ⟨Nat.le_of_ble_eq_true rfl, Nat.le_of_ble_eq_true rfl⟩) (zPreV hG (va_recv (q0 := 0) (ci := 0) hG.1 (wX_pA hP) rfl rfl) ((wX_pA hP))) rfl rfl hl.1 rfl (lv_room (Nat.le_of_ble_eq_true rfl)) dX4_show_43 ⟨Nat.le_of_ble_eq_true rfl, Nat.le_of_ble_eq_true rfl⟩) (wX_eA) (wX_eA) hP hD hS rfl (fun H locs hP hD hS => ?_)
      have hP : va_P G.1 vwCl (wX G ad (su σ (64 + 53 * k + (10 * d + p)) v) (upT T ((o + n) % 5) σ) o n f x len) H := hP
      have hD : va_D (zA (wX G ad σ T o n f x len)) (wX G ad (su σ (64 + 53 * k + (10 * d + p)) v) (upT T ((o + n) % 5) σ) o n f x len) := hD
      refine lv_istore (lv' := [(5, .int (nI (sgn σ k d p))), (0, .ref (ad 0 0)), (1, .int (nI k)), (2, .int (nI d)), (3, .int (nI p)), (4, .int (nI v))]) hx hb dX4_show_46 hl (by decide) rfl (fun ls hl => ?_)
      refine lv_aload_n hx hb dX4_show_48 rfl (lv_at hl 1 rfl) ?_
      refine lv_iload_n hx hb dX4_show_49 rfl (lv_at hl 2 rfl) ?_
      refine lv_iload hx hb dX4_show_50 (lv_at hl 0 rfl) ?_
      refine zwrW (G := G) (wc := (wX G ad (su σ (64 + 53 * k + (10 * d + p)) v) (upT T ((o + n) % 5) σ) o n f x len)) (wc' := (wX G ad (endS (su σ (64 + 53 * k + (10 * d + p)) v) k) (upT T ((o + n) % 5) σ) (nO o n) (nN n) f x len)) (va_runV (As := [.int (nI k), .int (nI (sgn σ k d p))]) (rest := []) ⟨hx, hb, hml, hown, hts⟩ (kX4_endRevision_ok l G ad (su σ (64 + 53 * k + (10 * d + p)) v) (upT T ((o + n) % 5) σ) o n f x len k (sgn σ k d p) (hO.su_sg (by omega) (by omega)) ho hn (by rw [nS_su (by omega)]; exact hk) (hrf) (zD_any hD)) (cwV 2 hts gX4_show_X4_endRevision rfl rfl rfl (by decide +kernel) ⟨Nat.le_of_ble_eq_true rfl, Nat.le_of_ble_eq_true rfl⟩) (zPreV hG (va_recv (q0 := 0) (ci := 4) hG.1 hP rfl rfl) (hP)) rfl rfl hl.1 rfl (lv_room (Nat.le_of_ble_eq_true rfl)) dX4_show_52 ⟨Nat.le_of_ble_eq_true rfl, Nat.le_of_ble_eq_true rfl⟩) hP hD hS (wX_map ..) (fun H locs hP hD hS => ?_)
      have hP : va_P G.1 vwCl (wX G ad (endS (su σ (64 + 53 * k + (10 * d + p)) v) k) (upT T ((o + n) % 5) σ) (nO o n) (nN n) f x len) H := hP
      have hD : va_D (zA (wX G ad σ T o n f x len)) (wX G ad (endS (su σ (64 + 53 * k + (10 * d + p)) v) k) (upT T ((o + n) % 5) σ) (nO o n) (nN n) f x len) := hD
      exact hret _ _ _ _ _ dX4_show_55 hS (hP) (congrArg nI (rfl))
    · skip
      have h18 : ¬ (nI 0 ≤ (nI v) ∧ (nI v) ≤ nI 9) := (z_b0).mp h18
      exact absurd hvd h18
set_option maxHeartbeats 4000000 in
set_option maxRecDepth 100000 in
theorem kX4_show_no (l : Launch) (G : zG) (ad : Nat → Nat → Nat) (σ : Nat → Nat) (T : Nat → Nat → Nat) (o n : Nat) (f : Nat → Int32) (x : Nat → Nat) (len : Nat) {N : Nat} (k : Nat) (d : Nat) (p : Nat) (v : Nat) (hO : Ok N σ) (ho : o < 5) (hn : n ≤ 4) (hk : k < nS σ) (hd4 : d < 4) (hp : p < 10) (hv9 : v < 10) (hrf : rfsd (su σ (64 + 53 * k + (10 * d + p)) v) k) (hd : va_D (fun _ => True) (wX G ad σ T o n f x len)) : Met l yX4_show wsX4_show (zRm 6 138) (zPc G [.ref (ad 0 0), .int (nI k), .int (nI d), .int (nI p), .int (nI v)] (va_P G.1 vwCl (wX G ad σ T o n f x len))) (zQ (zA (wX G ad σ T o n f x len)) (some (.int ((-2)))) (va_P G.1 vwCl (wX G ad σ (upT T ((o + n) % 5) σ) o n f x len))) 0 0 (zA (wX G ad σ T o n f x len)) := by
  refine zmkWi (w := (wX G ad σ T o n f x len)) hd (cc := cX4_show) (maxL := 6) (by decide) rfl (Nat.le_of_ble_eq_true rfl) ?_
  intro pr en st mi ar bl me cd ls Q hx hb hml hown hts hG hP hl hD hS hret
  have hown : st.vm.findClass RX4 = some mi.cls := hown
  have hl : lv_has ls 6 [(0, .ref (ad 0 0)), (1, .int (nI k)), (2, .int (nI d)), (3, .int (nI p)), (4, .int (nI v))] := hl
  have hP : va_P G.1 vwCl (wX G ad σ T o n f x len) st.heap := hP
  have hD : va_D (zA (wX G ad σ T o n f x len)) (wX G ad σ T o n f x len) := hD
  have hinX4 : ∀ w ∈ wsX40, w ∈ wsX4_show := by decide +kernel
  have hf10 := hts (.fieldLink RX4 10 "MapSheets" "now" "LMapSheets$Atlas;") (by decide +kernel)
  have hf19 := hts (.fieldLink RX4 19 "MapSheets" "history" "LMapSheets$History;") (by decide +kernel)
  have hc := hO.c
  have hs := hO.lS
  have hr := hO.lR
  have hne := hO.lE
  have hvp : (0 ≤ nI k ∧ nI k < nI (nS σ)) ∧ (0 ≤ nI d ∧ nI d ≤ 3) ∧ (0 ≤ nI p ∧ nI p ≤ 9) := ⟨z_in hk (by omega), z_lem (m := 3) (by omega) (by omega), z_lem (m := 9) (by omega) (by omega)⟩
  have hvd : nI 0 ≤ nI v ∧ nI v ≤ nI 9 := z_lem (by omega) (by omega)
  refine lv_aload_n hx hb dX4_show_0 rfl (lv_at hl 0 rfl) ?_
  refine va_get (D := G.1) (ci := 4) (v := .ref (ad 1 0)) (C := RX4) (T := TX4) (N := 4) hx hb hts hinX4 hown hG.1 hP 0 rfl rfl 0 (by decide) hf10 (fun _ h9 => h9) rfl dX4_show_1 ?_
  refine lv_iload_n hx hb dX4_show_4 rfl (lv_at hl 1 rfl) ?_
  refine lv_iload_n hx hb dX4_show_5 rfl (lv_at hl 2 rfl) ?_
  refine lv_iload_n hx hb dX4_show_6 rfl (lv_at hl 3 rfl) ?_
  refine zrdV (As := [.int (nI k), .int (nI d), .int (nI p)]) ⟨hx, hb, hml, hown, hts⟩ (kX0_hasPlace l G (ad 1) σ (nI k) (nI d) (nI p)) (cwV 3 hts gX4_show_X0_hasPlace rfl rfl rfl (by decide +kernel) ⟨Nat.le_of_ble_eq_true rfl, Nat.le_of_ble_eq_true rfl⟩) hG (va_recv (q0 := 0) (ci := 0) hG.1 (wX_pA hP) rfl rfl) ((wX_pA hP)) rfl rfl hl.1 dX4_show_7 (Nat.le_of_ble_eq_true rfl) ⟨Nat.le_of_ble_eq_true rfl, Nat.le_of_ble_eq_true rfl⟩ ?_
  refine lv_if_eq (tgt := 21) hx hb dX4_show_10 (by decide) (fun h10 => ?_) (fun h10 => ?_)
  · skip
    have h10 : ¬ ((0 ≤ (nI k) ∧ (nI k) < nI (nS σ)) ∧ (0 ≤ (nI d) ∧ (nI d) ≤ 3) ∧ (0 ≤ (nI p) ∧ (nI p) ≤ 9)) := (z_b0).mp h10
    exact absurd hvp h10
  · skip
    have h10 : ¬ (¬ ((0 ≤ (nI k) ∧ (nI k) < nI (nS σ)) ∧ (0 ≤ (nI d) ∧ (nI d) ≤ 3) ∧ (0 ≤ (nI p) ∧ (nI p) ≤ 9))) := fun q => h10 ((z_b0).mpr q)
    have h10 : (0 ≤ (nI k) ∧ (nI k) < nI (nS σ)) ∧ (0 ≤ (nI d) ∧ (nI d) ≤ 3) ∧ (0 ≤ (nI p) ∧ (nI p) ≤ 9) := Decidable.of_not_not h10
    refine lv_iload hx hb dX4_show_13 (lv_at hl 4 rfl) ?_
    refine zrdS (As := [.int (nI v)]) ⟨hx, hb, hml, hown, hts⟩ (kX4_isDigit l G  (nI v)) (va_cwS 1 hts gX4_show_X4_isDigit rfl rfl rfl (by decide +kernel) ⟨Nat.le_of_ble_eq_true rfl, Nat.le_of_ble_eq_true rfl⟩) hG (trivial) rfl rfl hl.1 dX4_show_15 (Nat.le_of_ble_eq_true rfl) ⟨Nat.le_of_ble_eq_true rfl, Nat.le_of_ble_eq_true rfl⟩ ?_
    refine lv_if_ne (tgt := 23) hx hb dX4_show_18 (by decide) (fun h18 => ?_) (fun h18 => ?_)
    · skip
      have h18 : ¬ (¬ (nI 0 ≤ (nI v) ∧ (nI v) ≤ nI 9)) := fun q => h18 ((z_b0).mpr q)
      have h18 : nI 0 ≤ (nI v) ∧ (nI v) ≤ nI 9 := Decidable.of_not_not h18
      refine lv_aload_n hx hb dX4_show_23 rfl (lv_at hl 0 rfl) ?_
      refine va_get (D := G.1) (ci := 4) (v := .ref (ad 2 0)) (C := RX4) (T := TX4) (N := 4) hx hb hts hinX4 hown hG.1 hP 0 rfl rfl 1 (by decide) hf19 (fun _ h9 => h9) rfl dX4_show_24 ?_
      refine lv_aload_n hx hb dX4_show_27 rfl (lv_at hl 0 rfl) ?_
      refine va_get (D := G.1) (ci := 4) (v := .ref (ad 1 0)) (C := RX4) (T := TX4) (N := 4) hx hb hts hinX4 hown hG.1 hP 0 rfl rfl 0 (by decide) hf10 (fun _ h9 => h9) rfl dX4_show_28 ?_
      refine zwrEv (G := G) (wc' := (wHo G (ad 2) (aH ad) o n ++ (wTs G (aH ad) (upT T ((o + n) % 5) σ) 5 ++ wA G (ad 1) σ))) (ws' := (wX G ad σ (upT T ((o + n) % 5) σ) o n f x len)) (va_runV (As := [.ref (ad 1 0)]) (rest := []) ⟨hx, hb, hml, hown, hts⟩ (kX2_recordState l G (ad 2) (aH ad) o n T (ad 1) σ (by omega) (by omega) (zD_any (wX_dHA hD))) (cwV 1 hts gX4_show_X2_recordState rfl rfl rfl (by decide +kernel) ⟨Nat.le_of_ble_eq_true rfl, Nat.le_of_ble_eq_true rfl⟩) (zPreV hG (va_recv (q0 := 0) (ci := 2) hG.1 (wX_pH hP) rfl rfl) (wX_pHA hP)) rfl rfl hl.1 rfl (lv_room (Nat.le_of_ble_eq_true rfl)) dX4_show_31 ⟨Nat.le_of_ble_eq_true rfl, Nat.le_of_ble_eq_true rfl⟩) (wX_eHA) (wX_eHA) hP hD hS (wHA_map _ _ _ _ _ _ _ _ _ _ _ _) (fun H locs hP hD hS => ?_)
      have hP : va_P G.1 vwCl (wX G ad σ (upT T ((o + n) % 5) σ) o n f x len) H := hP
      have hD : va_D (zA (wX G ad σ T o n f x len)) (wX G ad σ (upT T ((o + n) % 5) σ) o n f x len) := hD
      refine lv_aload_n hx hb dX4_show_34 rfl (lv_at hl 0 rfl) ?_
      refine va_get (D := G.1) (ci := 4) (v := .ref (ad 1 0)) (C := RX4) (T := TX4) (N := 4) hx hb hts hinX4 hown hG.1 hP 0 rfl rfl 0 (by decide) hf10 (fun _ h9 => h9) rfl dX4_show_35 ?_
      refine lv_iload_n hx hb dX4_show_38 rfl (lv_at hl 1 rfl) ?_
      refine lv_iload_n hx hb dX4_show_39 rfl (lv_at hl 2 rfl) ?_
      refine lv_iload_n hx hb dX4_show_40 rfl (lv_at hl 3 rfl) ?_
      refine lv_iload hx hb dX4_show_41 (lv_at hl 4 rfl) ?_
      refine zwrE (G := G) (wc' := (wA G (ad 1) (su σ (64 + 53 * k + (10 * d + p)) v))) (ws' := (wX G ad (su σ (64 + 53 * k + (10 * d + p)) v) (upT T ((o + n) % 5) σ) o n f x len)) (va_runV (As := [.int (nI k), .int (nI d), .int (nI p), .int (nI v)]) (rest := []) ⟨hx, hb, hml, hown, hts⟩ (kX0_putSign l G (ad 1) σ k d p v (by omega) (by omega) (by omega) (zD_any (wX_dA hD))) (cwV 4 hts gX4_show_X0_putSign rfl rfl rfl (by decide +kernel) ⟨Nat.le_of_ble_eq_true rfl, Nat.le_of_ble_eq_true rfl⟩) (zPreV hG (va_recv (q0 := 0) (ci := 0) hG.1 (wX_pA hP) rfl rfl) ((wX_pA hP))) rfl rfl hl.1 rfl (lv_room (Nat.le_of_ble_eq_true rfl)) dX4_show_43 ⟨Nat.le_of_ble_eq_true rfl, Nat.le_of_ble_eq_true rfl⟩) (wX_eA) (wX_eA) hP hD hS rfl (fun H locs hP hD hS => ?_)
      have hP : va_P G.1 vwCl (wX G ad (su σ (64 + 53 * k + (10 * d + p)) v) (upT T ((o + n) % 5) σ) o n f x len) H := hP
      have hD : va_D (zA (wX G ad σ T o n f x len)) (wX G ad (su σ (64 + 53 * k + (10 * d + p)) v) (upT T ((o + n) % 5) σ) o n f x len) := hD
      refine lv_istore (lv' := [(5, .int (nI (sgn σ k d p))), (0, .ref (ad 0 0)), (1, .int (nI k)), (2, .int (nI d)), (3, .int (nI p)), (4, .int (nI v))]) hx hb dX4_show_46 hl (by decide) rfl (fun ls hl => ?_)
      refine lv_aload_n hx hb dX4_show_48 rfl (lv_at hl 1 rfl) ?_
      refine lv_iload_n hx hb dX4_show_49 rfl (lv_at hl 2 rfl) ?_
      refine lv_iload hx hb dX4_show_50 (lv_at hl 0 rfl) ?_
      refine zwrW (G := G) (wc := (wX G ad (su σ (64 + 53 * k + (10 * d + p)) v) (upT T ((o + n) % 5) σ) o n f x len)) (wc' := (wX G ad ((upT T ((o + n) % 5) σ) ((o + n) % 5)) (upT T ((o + n) % 5) σ) o n f x len)) (va_runV (As := [.int (nI k), .int (nI (sgn σ k d p))]) (rest := []) ⟨hx, hb, hml, hown, hts⟩ (kX4_endRevision_no l G ad (su σ (64 + 53 * k + (10 * d + p)) v) (upT T ((o + n) % 5) σ) o n f x len k (sgn σ k d p) (hO.su_sg (by omega) (by omega)) ho hn (by rw [nS_su (by omega)]; exact hk) (hrf) (zD_any hD)) (cwV 2 hts gX4_show_X4_endRevision rfl rfl rfl (by decide +kernel) ⟨Nat.le_of_ble_eq_true rfl, Nat.le_of_ble_eq_true rfl⟩) (zPreV hG (va_recv (q0 := 0) (ci := 4) hG.1 hP rfl rfl) (hP)) rfl rfl hl.1 rfl (lv_room (Nat.le_of_ble_eq_true rfl)) dX4_show_52 ⟨Nat.le_of_ble_eq_true rfl, Nat.le_of_ble_eq_true rfl⟩) hP hD hS (wX_map ..) (fun H locs hP hD hS => ?_)
      have hP : va_P G.1 vwCl (wX G ad ((upT T ((o + n) % 5) σ) ((o + n) % 5)) (upT T ((o + n) % 5) σ) o n f x len) H := hP
      have hD : va_D (zA (wX G ad σ T o n f x len)) (wX G ad ((upT T ((o + n) % 5) σ) ((o + n) % 5)) (upT T ((o + n) % 5) σ) o n f x len) := hD
      exact hret _ _ _ _ _ dX4_show_55 hS (by rw [upT_at] at hP; exact hP) (rfl)
    · skip
      have h18 : ¬ (nI 0 ≤ (nI v) ∧ (nI v) ≤ nI 9) := (z_b0).mp h18
      exact absurd hvd h18
set_option maxHeartbeats 4000000 in
set_option maxRecDepth 100000 in
theorem kX4_erase_inv (l : Launch) (G : zG) (ad : Nat → Nat → Nat) (σ : Nat → Nat) (T : Nat → Nat → Nat) (o n : Nat) (f : Nat → Int32) (x : Nat → Nat) (len : Nat) {N : Nat} (x1 : Int32) (x2 : Int32) (x3 : Int32) (hO : Ok N σ) (ho : o < 5) (hn : n ≤ 4) (hv : ¬ ((0 ≤ x1 ∧ x1 < nI (nS σ)) ∧ (0 ≤ x2 ∧ x2 ≤ 3) ∧ (0 ≤ x3 ∧ x3 ≤ 9))) (hd : va_D (fun _ => True) (wX G ad σ T o n f x len)) : Met l yX4_erase wsX4_erase (zRm 6 138) (zPc G [.ref (ad 0 0), .int x1, .int x2, .int x3] (va_P G.1 vwCl (wX G ad σ T o n f x len))) (zQ (zA (wX G ad σ T o n f x len)) (some (.int ((-1)))) (va_P G.1 vwCl (wX G ad σ T o n f x len))) 0 0 (zA (wX G ad σ T o n f x len)) := by
  refine zmkWi (w := (wX G ad σ T o n f x len)) hd (cc := cX4_erase) (maxL := 5) (by decide) rfl (Nat.le_of_ble_eq_true rfl) ?_
  intro pr en st mi ar bl me cd ls Q hx hb hml hown hts hG hP hl hD hS hret
  have hown : st.vm.findClass RX4 = some mi.cls := hown
  have hl : lv_has ls 5 [(0, .ref (ad 0 0)), (1, .int x1), (2, .int x2), (3, .int x3)] := hl
  have hP : va_P G.1 vwCl (wX G ad σ T o n f x len) st.heap := hP
  have hD : va_D (zA (wX G ad σ T o n f x len)) (wX G ad σ T o n f x len) := hD
  have hinX4 : ∀ w ∈ wsX40, w ∈ wsX4_erase := by decide +kernel
  have hf10 := hts (.fieldLink RX4 10 "MapSheets" "now" "LMapSheets$Atlas;") (by decide +kernel)
  have hc := hO.c
  have hs := hO.lS
  have hr := hO.lR
  have hne := hO.lE
  refine lv_aload_n hx hb dX4_erase_0 rfl (lv_at hl 0 rfl) ?_
  refine va_get (D := G.1) (ci := 4) (v := .ref (ad 1 0)) (C := RX4) (T := TX4) (N := 4) hx hb hts hinX4 hown hG.1 hP 0 rfl rfl 0 (by decide) hf10 (fun _ h9 => h9) rfl dX4_erase_1 ?_
  refine lv_iload_n hx hb dX4_erase_4 rfl (lv_at hl 1 rfl) ?_
  refine lv_iload_n hx hb dX4_erase_5 rfl (lv_at hl 2 rfl) ?_
  refine lv_iload_n hx hb dX4_erase_6 rfl (lv_at hl 3 rfl) ?_
  refine zrdV (As := [.int x1, .int x2, .int x3]) ⟨hx, hb, hml, hown, hts⟩ (kX0_hasPlace l G (ad 1) σ x1 x2 x3) (cwV 3 hts gX4_erase_X0_hasPlace rfl rfl rfl (by decide +kernel) ⟨Nat.le_of_ble_eq_true rfl, Nat.le_of_ble_eq_true rfl⟩) hG (va_recv (q0 := 0) (ci := 0) hG.1 (wX_pA hP) rfl rfl) ((wX_pA hP)) rfl rfl hl.1 dX4_erase_7 (Nat.le_of_ble_eq_true rfl) ⟨Nat.le_of_ble_eq_true rfl, Nat.le_of_ble_eq_true rfl⟩ ?_
  refine lv_if_ne (tgt := 15) hx hb dX4_erase_10 (by decide) (fun h10 => ?_) (fun h10 => ?_)
  · skip
    have h10 : ¬ (¬ ((0 ≤ x1 ∧ x1 < nI (nS σ)) ∧ (0 ≤ x2 ∧ x2 ≤ 3) ∧ (0 ≤ x3 ∧ x3 ≤ 9))) := fun q => h10 ((z_b0).mpr q)
    have h10 : (0 ≤ x1 ∧ x1 < nI (nS σ)) ∧ (0 ≤ x2 ∧ x2 ≤ 3) ∧ (0 ≤ x3 ∧ x3 ≤ 9) := Decidable.of_not_not h10
    exact absurd h10 hv
  · skip
    have h10 : ¬ ((0 ≤ x1 ∧ x1 < nI (nS σ)) ∧ (0 ≤ x2 ∧ x2 ≤ 3) ∧ (0 ≤ x3 ∧ x3 ≤ 9)) := (z_b0).mp h10
    refine lv_iconst (v := (-1)) hx hb dX4_erase_13 (by decide) ?_
    exact hret _ _ _ _ _ dX4_erase_14 hS (hP) (rfl)
set_option maxHeartbeats 4000000 in
set_option maxRecDepth 100000 in
theorem kX4_erase_none (l : Launch) (G : zG) (ad : Nat → Nat → Nat) (σ : Nat → Nat) (T : Nat → Nat → Nat) (o n : Nat) (f : Nat → Int32) (x : Nat → Nat) (len : Nat) {N : Nat} (k : Nat) (d : Nat) (p : Nat) (hO : Ok N σ) (ho : o < 5) (hn : n ≤ 4) (hk : k < nS σ) (hd4 : d < 4) (hp : p < 10) (h10s : sgn σ k d p = 10) (hd : va_D (fun _ => True) (wX G ad σ T o n f x len)) : Met l yX4_erase wsX4_erase (zRm 6 138) (zPc G [.ref (ad 0 0), .int (nI k), .int (nI d), .int (nI p)] (va_P G.1 vwCl (wX G ad σ T o n f x len))) (zQ (zA (wX G ad σ T o n f x len)) (some (.int ((-2)))) (va_P G.1 vwCl (wX G ad σ T o n f x len))) 0 0 (zA (wX G ad σ T o n f x len)) := by
  refine zmkWi (w := (wX G ad σ T o n f x len)) hd (cc := cX4_erase) (maxL := 5) (by decide) rfl (Nat.le_of_ble_eq_true rfl) ?_
  intro pr en st mi ar bl me cd ls Q hx hb hml hown hts hG hP hl hD hS hret
  have hown : st.vm.findClass RX4 = some mi.cls := hown
  have hl : lv_has ls 5 [(0, .ref (ad 0 0)), (1, .int (nI k)), (2, .int (nI d)), (3, .int (nI p))] := hl
  have hP : va_P G.1 vwCl (wX G ad σ T o n f x len) st.heap := hP
  have hD : va_D (zA (wX G ad σ T o n f x len)) (wX G ad σ T o n f x len) := hD
  have hinX4 : ∀ w ∈ wsX40, w ∈ wsX4_erase := by decide +kernel
  have hf10 := hts (.fieldLink RX4 10 "MapSheets" "now" "LMapSheets$Atlas;") (by decide +kernel)
  have hc := hO.c
  have hs := hO.lS
  have hr := hO.lR
  have hne := hO.lE
  have hvp : (0 ≤ nI k ∧ nI k < nI (nS σ)) ∧ (0 ≤ nI d ∧ nI d ≤ 3) ∧ (0 ≤ nI p ∧ nI p ≤ 9) := ⟨z_in hk (by omega), z_lem (m := 3) (by omega) (by omega), z_lem (m := 9) (by omega) (by omega)⟩
  have hsg := hO.sg (show k < 36 by omega) hd4 hp
  refine lv_aload_n hx hb dX4_erase_0 rfl (lv_at hl 0 rfl) ?_
  refine va_get (D := G.1) (ci := 4) (v := .ref (ad 1 0)) (C := RX4) (T := TX4) (N := 4) hx hb hts hinX4 hown hG.1 hP 0 rfl rfl 0 (by decide) hf10 (fun _ h9 => h9) rfl dX4_erase_1 ?_
  refine lv_iload_n hx hb dX4_erase_4 rfl (lv_at hl 1 rfl) ?_
  refine lv_iload_n hx hb dX4_erase_5 rfl (lv_at hl 2 rfl) ?_
  refine lv_iload_n hx hb dX4_erase_6 rfl (lv_at hl 3 rfl) ?_
  refine zrdV (As := [.int (nI k), .int (nI d), .int (nI p)]) ⟨hx, hb, hml, hown, hts⟩ (kX0_hasPlace l G (ad 1) σ (nI k) (nI d) (nI p)) (cwV 3 hts gX4_erase_X0_hasPlace rfl rfl rfl (by decide +kernel) ⟨Nat.le_of_ble_eq_true rfl, Nat.le_of_ble_eq_true rfl⟩) hG (va_recv (q0 := 0) (ci := 0) hG.1 (wX_pA hP) rfl rfl) ((wX_pA hP)) rfl rfl hl.1 dX4_erase_7 (Nat.le_of_ble_eq_true rfl) ⟨Nat.le_of_ble_eq_true rfl, Nat.le_of_ble_eq_true rfl⟩ ?_
  refine lv_if_ne (tgt := 15) hx hb dX4_erase_10 (by decide) (fun h10 => ?_) (fun h10 => ?_)
  · skip
    have h10 : ¬ (¬ ((0 ≤ (nI k) ∧ (nI k) < nI (nS σ)) ∧ (0 ≤ (nI d) ∧ (nI d) ≤ 3) ∧ (0 ≤ (nI p) ∧ (nI p) ≤ 9))) := fun q => h10 ((z_b0).mpr q)
    have h10 : (0 ≤ (nI k) ∧ (nI k) < nI (nS σ)) ∧ (0 ≤ (nI d) ∧ (nI d) ≤ 3) ∧ (0 ≤ (nI p) ∧ (nI p) ≤ 9) := Decidable.of_not_not h10
    refine lv_aload_n hx hb dX4_erase_15 rfl (lv_at hl 0 rfl) ?_
    refine va_get (D := G.1) (ci := 4) (v := .ref (ad 1 0)) (C := RX4) (T := TX4) (N := 4) hx hb hts hinX4 hown hG.1 hP 0 rfl rfl 0 (by decide) hf10 (fun _ h9 => h9) rfl dX4_erase_16 ?_
    refine lv_iload_n hx hb dX4_erase_19 rfl (lv_at hl 1 rfl) ?_
    refine lv_iload_n hx hb dX4_erase_20 rfl (lv_at hl 2 rfl) ?_
    refine lv_iload_n hx hb dX4_erase_21 rfl (lv_at hl 3 rfl) ?_
    refine zrdV (As := [.int (nI k), .int (nI d), .int (nI p)]) ⟨hx, hb, hml, hown, hts⟩ (kX0_signAt l G (ad 1) σ k d p (by omega) (by omega) (by omega)) (cwV 3 hts gX4_erase_X0_signAt rfl rfl rfl (by decide +kernel) ⟨Nat.le_of_ble_eq_true rfl, Nat.le_of_ble_eq_true rfl⟩) hG (va_recv (q0 := 0) (ci := 0) hG.1 (wX_pA hP) rfl rfl) ((wX_pA hP)) rfl rfl hl.1 dX4_erase_22 (Nat.le_of_ble_eq_true rfl) ⟨Nat.le_of_ble_eq_true rfl, Nat.le_of_ble_eq_true rfl⟩ ?_
    refine lv_bipush (v := nI 10) hx hb dX4_erase_25 (by decide) ?_
    refine lv_icmp_ne (tgt := 33) hx hb dX4_erase_27 (by decide) (fun h27 => ?_) (fun h27 => ?_)
    · skip
      have h27 : ¬ ((sgn σ k d p) = 10) := fun q => h27 ((nI_eq (by omega) (by omega)).mpr q)
      exfalso; omega
    · skip
      have h27 : (sgn σ k d p) = 10 := (nI_eq (by omega) (by omega)).mp h27
      refine lv_bipush (v := (-2)) hx hb dX4_erase_30 (by decide) ?_
      exact hret _ _ _ _ _ dX4_erase_32 hS (hP) (rfl)
  · skip
    have h10 : ¬ ((0 ≤ (nI k) ∧ (nI k) < nI (nS σ)) ∧ (0 ≤ (nI d) ∧ (nI d) ≤ 3) ∧ (0 ≤ (nI p) ∧ (nI p) ≤ 9)) := (z_b0).mp h10
    exact absurd hvp h10
set_option maxHeartbeats 4000000 in
set_option maxRecDepth 100000 in
theorem kX4_erase_ok (l : Launch) (G : zG) (ad : Nat → Nat → Nat) (σ : Nat → Nat) (T : Nat → Nat → Nat) (o n : Nat) (f : Nat → Int32) (x : Nat → Nat) (len : Nat) {N : Nat} (k : Nat) (d : Nat) (p : Nat) (hO : Ok N σ) (ho : o < 5) (hn : n ≤ 4) (hk : k < nS σ) (hd4 : d < 4) (hp : p < 10) (h10s : sgn σ k d p ≠ 10) (hrf : ¬ rfsd (su σ (64 + 53 * k + (10 * d + p)) 10) k) (hd : va_D (fun _ => True) (wX G ad σ T o n f x len)) : Met l yX4_erase wsX4_erase (zRm 6 138) (zPc G [.ref (ad 0 0), .int (nI k), .int (nI d), .int (nI p)] (va_P G.1 vwCl (wX G ad σ T o n f x len))) (zQ (zA (wX G ad σ T o n f x len)) (some (.int (nI (sgn σ k d p)))) (va_P G.1 vwCl (wX G ad (endS (su σ (64 + 53 * k + (10 * d + p)) 10) k) (upT T ((o + n) % 5) σ) (nO o n) (nN n) f x len))) 0 0 (zA (wX G ad σ T o n f x len)) := by
  refine zmkWi (w := (wX G ad σ T o n f x len)) hd (cc := cX4_erase) (maxL := 5) (by decide) rfl (Nat.le_of_ble_eq_true rfl) ?_
  intro pr en st mi ar bl me cd ls Q hx hb hml hown hts hG hP hl hD hS hret
  have hown : st.vm.findClass RX4 = some mi.cls := hown
  have hl : lv_has ls 5 [(0, .ref (ad 0 0)), (1, .int (nI k)), (2, .int (nI d)), (3, .int (nI p))] := hl
  have hP : va_P G.1 vwCl (wX G ad σ T o n f x len) st.heap := hP
  have hD : va_D (zA (wX G ad σ T o n f x len)) (wX G ad σ T o n f x len) := hD
  have hinX4 : ∀ w ∈ wsX40, w ∈ wsX4_erase := by decide +kernel
  have hf10 := hts (.fieldLink RX4 10 "MapSheets" "now" "LMapSheets$Atlas;") (by decide +kernel)
  have hf19 := hts (.fieldLink RX4 19 "MapSheets" "history" "LMapSheets$History;") (by decide +kernel)
  have hc := hO.c
  have hs := hO.lS
  have hr := hO.lR
  have hne := hO.lE
  have hvp : (0 ≤ nI k ∧ nI k < nI (nS σ)) ∧ (0 ≤ nI d ∧ nI d ≤ 3) ∧ (0 ≤ nI p ∧ nI p ≤ 9) := ⟨z_in hk (by omega), z_lem (m := 3) (by omega) (by omega), z_lem (m := 9) (by omega) (by omega)⟩
  have hsg := hO.sg (show k < 36 by omega) hd4 hp
  refine lv_aload_n hx hb dX4_erase_0 rfl (lv_at hl 0 rfl) ?_
  refine va_get (D := G.1) (ci := 4) (v := .ref (ad 1 0)) (C := RX4) (T := TX4) (N := 4) hx hb hts hinX4 hown hG.1 hP 0 rfl rfl 0 (by decide) hf10 (fun _ h9 => h9) rfl dX4_erase_1 ?_
  refine lv_iload_n hx hb dX4_erase_4 rfl (lv_at hl 1 rfl) ?_
  refine lv_iload_n hx hb dX4_erase_5 rfl (lv_at hl 2 rfl) ?_
  refine lv_iload_n hx hb dX4_erase_6 rfl (lv_at hl 3 rfl) ?_
  refine zrdV (As := [.int (nI k), .int (nI d), .int (nI p)]) ⟨hx, hb, hml, hown, hts⟩ (kX0_hasPlace l G (ad 1) σ (nI k) (nI d) (nI p)) (cwV 3 hts gX4_erase_X0_hasPlace rfl rfl rfl (by decide +kernel) ⟨Nat.le_of_ble_eq_true rfl, Nat.le_of_ble_eq_true rfl⟩) hG (va_recv (q0 := 0) (ci := 0) hG.1 (wX_pA hP) rfl rfl) ((wX_pA hP)) rfl rfl hl.1 dX4_erase_7 (Nat.le_of_ble_eq_true rfl) ⟨Nat.le_of_ble_eq_true rfl, Nat.le_of_ble_eq_true rfl⟩ ?_
  refine lv_if_ne (tgt := 15) hx hb dX4_erase_10 (by decide) (fun h10 => ?_) (fun h10 => ?_)
  · skip
    have h10 : ¬ (¬ ((0 ≤ (nI k) ∧ (nI k) < nI (nS σ)) ∧ (0 ≤ (nI d) ∧ (nI d) ≤ 3) ∧ (0 ≤ (nI p) ∧ (nI p) ≤ 9))) := fun q => h10 ((z_b0).mpr q)
    have h10 : (0 ≤ (nI k) ∧ (nI k) < nI (nS σ)) ∧ (0 ≤ (nI d) ∧ (nI d) ≤ 3) ∧ (0 ≤ (nI p) ∧ (nI p) ≤ 9) := Decidable.of_not_not h10
    refine lv_aload_n hx hb dX4_erase_15 rfl (lv_at hl 0 rfl) ?_
    refine va_get (D := G.1) (ci := 4) (v := .ref (ad 1 0)) (C := RX4) (T := TX4) (N := 4) hx hb hts hinX4 hown hG.1 hP 0 rfl rfl 0 (by decide) hf10 (fun _ h9 => h9) rfl dX4_erase_16 ?_
    refine lv_iload_n hx hb dX4_erase_19 rfl (lv_at hl 1 rfl) ?_
    refine lv_iload_n hx hb dX4_erase_20 rfl (lv_at hl 2 rfl) ?_
    refine lv_iload_n hx hb dX4_erase_21 rfl (lv_at hl 3 rfl) ?_
    refine zrdV (As := [.int (nI k), .int (nI d), .int (nI p)]) ⟨hx, hb, hml, hown, hts⟩ (kX0_signAt l G (ad 1) σ k d p (by omega) (by omega) (by omega)) (cwV 3 hts gX4_erase_X0_signAt rfl rfl rfl (by decide +kernel) ⟨Nat.le_of_ble_eq_true rfl, Nat.le_of_ble_eq_true rfl⟩) hG (va_recv (q0 := 0) (ci := 0) hG.1 (wX_pA hP) rfl rfl) ((wX_pA hP)) rfl rfl hl.1 dX4_erase_22 (Nat.le_of_ble_eq_true rfl) ⟨Nat.le_of_ble_eq_true rfl, Nat.le_of_ble_eq_true rfl⟩ ?_
    refine lv_bipush (v := nI 10) hx hb dX4_erase_25 (by decide) ?_
    refine lv_icmp_ne (tgt := 33) hx hb dX4_erase_27 (by decide) (fun h27 => ?_) (fun h27 => ?_)
    · skip
      have h27 : ¬ ((sgn σ k d p) = 10) := fun q => h27 ((nI_eq (by omega) (by omega)).mpr q)
      refine lv_aload_n hx hb dX4_erase_33 rfl (lv_at hl 0 rfl) ?_
      refine va_get (D := G.1) (ci := 4) (v := .ref (ad 2 0)) (C := RX4) (T := TX4) (N := 4) hx hb hts hinX4 hown hG.1 hP 0 rfl rfl 1 (by decide) hf19 (fun _ h9 => h9) rfl dX4_erase_34 ?_
      refine lv_aload_n hx hb dX4_erase_37 rfl (lv_at hl 0 rfl) ?_
      refine va_get (D := G.1) (ci := 4) (v := .ref (ad 1 0)) (C := RX4) (T := TX4) (N := 4) hx hb hts hinX4 hown hG.1 hP 0 rfl rfl 0 (by decide) hf10 (fun _ h9 => h9) rfl dX4_erase_38 ?_
      refine zwrEv (G := G) (wc' := (wHo G (ad 2) (aH ad) o n ++ (wTs G (aH ad) (upT T ((o + n) % 5) σ) 5 ++ wA G (ad 1) σ))) (ws' := (wX G ad σ (upT T ((o + n) % 5) σ) o n f x len)) (va_runV (As := [.ref (ad 1 0)]) (rest := []) ⟨hx, hb, hml, hown, hts⟩ (kX2_recordState l G (ad 2) (aH ad) o n T (ad 1) σ (by omega) (by omega) (zD_any (wX_dHA hD))) (cwV 1 hts gX4_erase_X2_recordState rfl rfl rfl (by decide +kernel) ⟨Nat.le_of_ble_eq_true rfl, Nat.le_of_ble_eq_true rfl⟩) (zPreV hG (va_recv (q0 := 0) (ci := 2) hG.1 (wX_pH hP) rfl rfl) (wX_pHA hP)) rfl rfl hl.1 rfl (lv_room (Nat.le_of_ble_eq_true rfl)) dX4_erase_41 ⟨Nat.le_of_ble_eq_true rfl, Nat.le_of_ble_eq_true rfl⟩) (wX_eHA) (wX_eHA) hP hD hS (wHA_map _ _ _ _ _ _ _ _ _ _ _ _) (fun H locs hP hD hS => ?_)
      have hP : va_P G.1 vwCl (wX G ad σ (upT T ((o + n) % 5) σ) o n f x len) H := hP
      have hD : va_D (zA (wX G ad σ T o n f x len)) (wX G ad σ (upT T ((o + n) % 5) σ) o n f x len) := hD
      refine lv_aload_n hx hb dX4_erase_44 rfl (lv_at hl 0 rfl) ?_
      refine va_get (D := G.1) (ci := 4) (v := .ref (ad 1 0)) (C := RX4) (T := TX4) (N := 4) hx hb hts hinX4 hown hG.1 hP 0 rfl rfl 0 (by decide) hf10 (fun _ h9 => h9) rfl dX4_erase_45 ?_
      refine lv_iload_n hx hb dX4_erase_48 rfl (lv_at hl 1 rfl) ?_
      refine lv_iload_n hx hb dX4_erase_49 rfl (lv_at hl 2 rfl) ?_
      refine lv_iload_n hx hb dX4_erase_50 rfl (lv_at hl 3 rfl) ?_
      refine lv_bipush (v := nI 10) hx hb dX4_erase_51 (by decide) ?_
      refine zwrE (G := G) (wc' := (wA G (ad 1) (su σ (64 + 53 * k + (10 * d + p)) 10))) (ws' := (wX G ad (su σ (64 + 53 * k + (10 * d + p)) 10) (upT T ((o + n) % 5) σ) o n f x len)) (va_runV (As := [.int (nI k), .int (nI d), .int (nI p), .int (nI 10)]) (rest := []) ⟨hx, hb, hml, hown, hts⟩ (kX0_putSign l G (ad 1) σ k d p 10 (by omega) (by omega) (by omega) (zD_any (wX_dA hD))) (cwV 4 hts gX4_erase_X0_putSign rfl rfl rfl (by decide +kernel) ⟨Nat.le_of_ble_eq_true rfl, Nat.le_of_ble_eq_true rfl⟩) (zPreV hG (va_recv (q0 := 0) (ci := 0) hG.1 (wX_pA hP) rfl rfl) ((wX_pA hP))) rfl rfl hl.1 rfl (lv_room (Nat.le_of_ble_eq_true rfl)) dX4_erase_53 ⟨Nat.le_of_ble_eq_true rfl, Nat.le_of_ble_eq_true rfl⟩) (wX_eA) (wX_eA) hP hD hS rfl (fun H locs hP hD hS => ?_)
      have hP : va_P G.1 vwCl (wX G ad (su σ (64 + 53 * k + (10 * d + p)) 10) (upT T ((o + n) % 5) σ) o n f x len) H := hP
      have hD : va_D (zA (wX G ad σ T o n f x len)) (wX G ad (su σ (64 + 53 * k + (10 * d + p)) 10) (upT T ((o + n) % 5) σ) o n f x len) := hD
      refine lv_istore (lv' := [(4, .int (nI (sgn σ k d p))), (0, .ref (ad 0 0)), (1, .int (nI k)), (2, .int (nI d)), (3, .int (nI p))]) hx hb dX4_erase_56 hl (by decide) rfl (fun ls hl => ?_)
      refine lv_aload_n hx hb dX4_erase_58 rfl (lv_at hl 1 rfl) ?_
      refine lv_iload_n hx hb dX4_erase_59 rfl (lv_at hl 2 rfl) ?_
      refine lv_iload hx hb dX4_erase_60 (lv_at hl 0 rfl) ?_
      refine zwrW (G := G) (wc := (wX G ad (su σ (64 + 53 * k + (10 * d + p)) 10) (upT T ((o + n) % 5) σ) o n f x len)) (wc' := (wX G ad (endS (su σ (64 + 53 * k + (10 * d + p)) 10) k) (upT T ((o + n) % 5) σ) (nO o n) (nN n) f x len)) (va_runV (As := [.int (nI k), .int (nI (sgn σ k d p))]) (rest := []) ⟨hx, hb, hml, hown, hts⟩ (kX4_endRevision_ok l G ad (su σ (64 + 53 * k + (10 * d + p)) 10) (upT T ((o + n) % 5) σ) o n f x len k (sgn σ k d p) (hO.su_sg (by omega) (by omega)) ho hn (by rw [nS_su (by omega)]; exact hk) (hrf) (zD_any hD)) (cwV 2 hts gX4_erase_X4_endRevision rfl rfl rfl (by decide +kernel) ⟨Nat.le_of_ble_eq_true rfl, Nat.le_of_ble_eq_true rfl⟩) (zPreV hG (va_recv (q0 := 0) (ci := 4) hG.1 hP rfl rfl) (hP)) rfl rfl hl.1 rfl (lv_room (Nat.le_of_ble_eq_true rfl)) dX4_erase_62 ⟨Nat.le_of_ble_eq_true rfl, Nat.le_of_ble_eq_true rfl⟩) hP hD hS (wX_map ..) (fun H locs hP hD hS => ?_)
      have hP : va_P G.1 vwCl (wX G ad (endS (su σ (64 + 53 * k + (10 * d + p)) 10) k) (upT T ((o + n) % 5) σ) (nO o n) (nN n) f x len) H := hP
      have hD : va_D (zA (wX G ad σ T o n f x len)) (wX G ad (endS (su σ (64 + 53 * k + (10 * d + p)) 10) k) (upT T ((o + n) % 5) σ) (nO o n) (nN n) f x len) := hD
      exact hret _ _ _ _ _ dX4_erase_65 hS (hP) (congrArg nI (rfl))
    · skip
      have h27 : (sgn σ k d p) = 10 := (nI_eq (by omega) (by omega)).mp h27
      exact absurd h27 h10s
  · skip
    have h10 : ¬ ((0 ≤ (nI k) ∧ (nI k) < nI (nS σ)) ∧ (0 ≤ (nI d) ∧ (nI d) ≤ 3) ∧ (0 ≤ (nI p) ∧ (nI p) ≤ 9)) := (z_b0).mp h10
    exact absurd hvp h10
set_option maxHeartbeats 4000000 in
set_option maxRecDepth 100000 in
theorem kX4_erase_no (l : Launch) (G : zG) (ad : Nat → Nat → Nat) (σ : Nat → Nat) (T : Nat → Nat → Nat) (o n : Nat) (f : Nat → Int32) (x : Nat → Nat) (len : Nat) {N : Nat} (k : Nat) (d : Nat) (p : Nat) (hO : Ok N σ) (ho : o < 5) (hn : n ≤ 4) (hk : k < nS σ) (hd4 : d < 4) (hp : p < 10) (h10s : sgn σ k d p ≠ 10) (hrf : rfsd (su σ (64 + 53 * k + (10 * d + p)) 10) k) (hd : va_D (fun _ => True) (wX G ad σ T o n f x len)) : Met l yX4_erase wsX4_erase (zRm 6 138) (zPc G [.ref (ad 0 0), .int (nI k), .int (nI d), .int (nI p)] (va_P G.1 vwCl (wX G ad σ T o n f x len))) (zQ (zA (wX G ad σ T o n f x len)) (some (.int ((-2)))) (va_P G.1 vwCl (wX G ad σ (upT T ((o + n) % 5) σ) o n f x len))) 0 0 (zA (wX G ad σ T o n f x len)) := by
  refine zmkWi (w := (wX G ad σ T o n f x len)) hd (cc := cX4_erase) (maxL := 5) (by decide) rfl (Nat.le_of_ble_eq_true rfl) ?_
  intro pr en st mi ar bl me cd ls Q hx hb hml hown hts hG hP hl hD hS hret
  have hown : st.vm.findClass RX4 = some mi.cls := hown
  have hl : lv_has ls 5 [(0, .ref (ad 0 0)), (1, .int (nI k)), (2, .int (nI d)), (3, .int (nI p))] := hl
  have hP : va_P G.1 vwCl (wX G ad σ T o n f x len) st.heap := hP
  have hD : va_D (zA (wX G ad σ T o n f x len)) (wX G ad σ T o n f x len) := hD
  have hinX4 : ∀ w ∈ wsX40, w ∈ wsX4_erase := by decide +kernel
  have hf10 := hts (.fieldLink RX4 10 "MapSheets" "now" "LMapSheets$Atlas;") (by decide +kernel)
  have hf19 := hts (.fieldLink RX4 19 "MapSheets" "history" "LMapSheets$History;") (by decide +kernel)
  have hc := hO.c
  have hs := hO.lS
  have hr := hO.lR
  have hne := hO.lE
  have hvp : (0 ≤ nI k ∧ nI k < nI (nS σ)) ∧ (0 ≤ nI d ∧ nI d ≤ 3) ∧ (0 ≤ nI p ∧ nI p ≤ 9) := ⟨z_in hk (by omega), z_lem (m := 3) (by omega) (by omega), z_lem (m := 9) (by omega) (by omega)⟩
  have hsg := hO.sg (show k < 36 by omega) hd4 hp
  refine lv_aload_n hx hb dX4_erase_0 rfl (lv_at hl 0 rfl) ?_
  refine va_get (D := G.1) (ci := 4) (v := .ref (ad 1 0)) (C := RX4) (T := TX4) (N := 4) hx hb hts hinX4 hown hG.1 hP 0 rfl rfl 0 (by decide) hf10 (fun _ h9 => h9) rfl dX4_erase_1 ?_
  refine lv_iload_n hx hb dX4_erase_4 rfl (lv_at hl 1 rfl) ?_
  refine lv_iload_n hx hb dX4_erase_5 rfl (lv_at hl 2 rfl) ?_
  refine lv_iload_n hx hb dX4_erase_6 rfl (lv_at hl 3 rfl) ?_
  refine zrdV (As := [.int (nI k), .int (nI d), .int (nI p)]) ⟨hx, hb, hml, hown, hts⟩ (kX0_hasPlace l G (ad 1) σ (nI k) (nI d) (nI p)) (cwV 3 hts gX4_erase_X0_hasPlace rfl rfl rfl (by decide +kernel) ⟨Nat.le_of_ble_eq_true rfl, Nat.le_of_ble_eq_true rfl⟩) hG (va_recv (q0 := 0) (ci := 0) hG.1 (wX_pA hP) rfl rfl) ((wX_pA hP)) rfl rfl hl.1 dX4_erase_7 (Nat.le_of_ble_eq_true rfl) ⟨Nat.le_of_ble_eq_true rfl, Nat.le_of_ble_eq_true rfl⟩ ?_
  refine lv_if_ne (tgt := 15) hx hb dX4_erase_10 (by decide) (fun h10 => ?_) (fun h10 => ?_)
  · skip
    have h10 : ¬ (¬ ((0 ≤ (nI k) ∧ (nI k) < nI (nS σ)) ∧ (0 ≤ (nI d) ∧ (nI d) ≤ 3) ∧ (0 ≤ (nI p) ∧ (nI p) ≤ 9))) := fun q => h10 ((z_b0).mpr q)
    have h10 : (0 ≤ (nI k) ∧ (nI k) < nI (nS σ)) ∧ (0 ≤ (nI d) ∧ (nI d) ≤ 3) ∧ (0 ≤ (nI p) ∧ (nI p) ≤ 9) := Decidable.of_not_not h10
    refine lv_aload_n hx hb dX4_erase_15 rfl (lv_at hl 0 rfl) ?_
    refine va_get (D := G.1) (ci := 4) (v := .ref (ad 1 0)) (C := RX4) (T := TX4) (N := 4) hx hb hts hinX4 hown hG.1 hP 0 rfl rfl 0 (by decide) hf10 (fun _ h9 => h9) rfl dX4_erase_16 ?_
    refine lv_iload_n hx hb dX4_erase_19 rfl (lv_at hl 1 rfl) ?_
    refine lv_iload_n hx hb dX4_erase_20 rfl (lv_at hl 2 rfl) ?_
    refine lv_iload_n hx hb dX4_erase_21 rfl (lv_at hl 3 rfl) ?_
    refine zrdV (As := [.int (nI k), .int (nI d), .int (nI p)]) ⟨hx, hb, hml, hown, hts⟩ (kX0_signAt l G (ad 1) σ k d p (by omega) (by omega) (by omega)) (cwV 3 hts gX4_erase_X0_signAt rfl rfl rfl (by decide +kernel) ⟨Nat.le_of_ble_eq_true rfl, Nat.le_of_ble_eq_true rfl⟩) hG (va_recv (q0 := 0) (ci := 0) hG.1 (wX_pA hP) rfl rfl) ((wX_pA hP)) rfl rfl hl.1 dX4_erase_22 (Nat.le_of_ble_eq_true rfl) ⟨Nat.le_of_ble_eq_true rfl, Nat.le_of_ble_eq_true rfl⟩ ?_
    refine lv_bipush (v := nI 10) hx hb dX4_erase_25 (by decide) ?_
    refine lv_icmp_ne (tgt := 33) hx hb dX4_erase_27 (by decide) (fun h27 => ?_) (fun h27 => ?_)
    · skip
      have h27 : ¬ ((sgn σ k d p) = 10) := fun q => h27 ((nI_eq (by omega) (by omega)).mpr q)
      refine lv_aload_n hx hb dX4_erase_33 rfl (lv_at hl 0 rfl) ?_
      refine va_get (D := G.1) (ci := 4) (v := .ref (ad 2 0)) (C := RX4) (T := TX4) (N := 4) hx hb hts hinX4 hown hG.1 hP 0 rfl rfl 1 (by decide) hf19 (fun _ h9 => h9) rfl dX4_erase_34 ?_
      refine lv_aload_n hx hb dX4_erase_37 rfl (lv_at hl 0 rfl) ?_
      refine va_get (D := G.1) (ci := 4) (v := .ref (ad 1 0)) (C := RX4) (T := TX4) (N := 4) hx hb hts hinX4 hown hG.1 hP 0 rfl rfl 0 (by decide) hf10 (fun _ h9 => h9) rfl dX4_erase_38 ?_
      refine zwrEv (G := G) (wc' := (wHo G (ad 2) (aH ad) o n ++ (wTs G (aH ad) (upT T ((o + n) % 5) σ) 5 ++ wA G (ad 1) σ))) (ws' := (wX G ad σ (upT T ((o + n) % 5) σ) o n f x len)) (va_runV (As := [.ref (ad 1 0)]) (rest := []) ⟨hx, hb, hml, hown, hts⟩ (kX2_recordState l G (ad 2) (aH ad) o n T (ad 1) σ (by omega) (by omega) (zD_any (wX_dHA hD))) (cwV 1 hts gX4_erase_X2_recordState rfl rfl rfl (by decide +kernel) ⟨Nat.le_of_ble_eq_true rfl, Nat.le_of_ble_eq_true rfl⟩) (zPreV hG (va_recv (q0 := 0) (ci := 2) hG.1 (wX_pH hP) rfl rfl) (wX_pHA hP)) rfl rfl hl.1 rfl (lv_room (Nat.le_of_ble_eq_true rfl)) dX4_erase_41 ⟨Nat.le_of_ble_eq_true rfl, Nat.le_of_ble_eq_true rfl⟩) (wX_eHA) (wX_eHA) hP hD hS (wHA_map _ _ _ _ _ _ _ _ _ _ _ _) (fun H locs hP hD hS => ?_)
      have hP : va_P G.1 vwCl (wX G ad σ (upT T ((o + n) % 5) σ) o n f x len) H := hP
      have hD : va_D (zA (wX G ad σ T o n f x len)) (wX G ad σ (upT T ((o + n) % 5) σ) o n f x len) := hD
      refine lv_aload_n hx hb dX4_erase_44 rfl (lv_at hl 0 rfl) ?_
      refine va_get (D := G.1) (ci := 4) (v := .ref (ad 1 0)) (C := RX4) (T := TX4) (N := 4) hx hb hts hinX4 hown hG.1 hP 0 rfl rfl 0 (by decide) hf10 (fun _ h9 => h9) rfl dX4_erase_45 ?_
      refine lv_iload_n hx hb dX4_erase_48 rfl (lv_at hl 1 rfl) ?_
      refine lv_iload_n hx hb dX4_erase_49 rfl (lv_at hl 2 rfl) ?_
      refine lv_iload_n hx hb dX4_erase_50 rfl (lv_at hl 3 rfl) ?_
      refine lv_bipush (v := nI 10) hx hb dX4_erase_51 (by decide) ?_
      refine zwrE (G := G) (wc' := (wA G (ad 1) (su σ (64 + 53 * k + (10 * d + p)) 10))) (ws' := (wX G ad (su σ (64 + 53 * k + (10 * d + p)) 10) (upT T ((o + n) % 5) σ) o n f x len)) (va_runV (As := [.int (nI k), .int (nI d), .int (nI p), .int (nI 10)]) (rest := []) ⟨hx, hb, hml, hown, hts⟩ (kX0_putSign l G (ad 1) σ k d p 10 (by omega) (by omega) (by omega) (zD_any (wX_dA hD))) (cwV 4 hts gX4_erase_X0_putSign rfl rfl rfl (by decide +kernel) ⟨Nat.le_of_ble_eq_true rfl, Nat.le_of_ble_eq_true rfl⟩) (zPreV hG (va_recv (q0 := 0) (ci := 0) hG.1 (wX_pA hP) rfl rfl) ((wX_pA hP))) rfl rfl hl.1 rfl (lv_room (Nat.le_of_ble_eq_true rfl)) dX4_erase_53 ⟨Nat.le_of_ble_eq_true rfl, Nat.le_of_ble_eq_true rfl⟩) (wX_eA) (wX_eA) hP hD hS rfl (fun H locs hP hD hS => ?_)
      have hP : va_P G.1 vwCl (wX G ad (su σ (64 + 53 * k + (10 * d + p)) 10) (upT T ((o + n) % 5) σ) o n f x len) H := hP
      have hD : va_D (zA (wX G ad σ T o n f x len)) (wX G ad (su σ (64 + 53 * k + (10 * d + p)) 10) (upT T ((o + n) % 5) σ) o n f x len) := hD
      refine lv_istore (lv' := [(4, .int (nI (sgn σ k d p))), (0, .ref (ad 0 0)), (1, .int (nI k)), (2, .int (nI d)), (3, .int (nI p))]) hx hb dX4_erase_56 hl (by decide) rfl (fun ls hl => ?_)
      refine lv_aload_n hx hb dX4_erase_58 rfl (lv_at hl 1 rfl) ?_
      refine lv_iload_n hx hb dX4_erase_59 rfl (lv_at hl 2 rfl) ?_
      refine lv_iload hx hb dX4_erase_60 (lv_at hl 0 rfl) ?_
      refine zwrW (G := G) (wc := (wX G ad (su σ (64 + 53 * k + (10 * d + p)) 10) (upT T ((o + n) % 5) σ) o n f x len)) (wc' := (wX G ad ((upT T ((o + n) % 5) σ) ((o + n) % 5)) (upT T ((o + n) % 5) σ) o n f x len)) (va_runV (As := [.int (nI k), .int (nI (sgn σ k d p))]) (rest := []) ⟨hx, hb, hml, hown, hts⟩ (kX4_endRevision_no l G ad (su σ (64 + 53 * k + (10 * d + p)) 10) (upT T ((o + n) % 5) σ) o n f x len k (sgn σ k d p) (hO.su_sg (by omega) (by omega)) ho hn (by rw [nS_su (by omega)]; exact hk) (hrf) (zD_any hD)) (cwV 2 hts gX4_erase_X4_endRevision rfl rfl rfl (by decide +kernel) ⟨Nat.le_of_ble_eq_true rfl, Nat.le_of_ble_eq_true rfl⟩) (zPreV hG (va_recv (q0 := 0) (ci := 4) hG.1 hP rfl rfl) (hP)) rfl rfl hl.1 rfl (lv_room (Nat.le_of_ble_eq_true rfl)) dX4_erase_62 ⟨Nat.le_of_ble_eq_true rfl, Nat.le_of_ble_eq_true rfl⟩) hP hD hS (wX_map ..) (fun H locs hP hD hS => ?_)
      have hP : va_P G.1 vwCl (wX G ad ((upT T ((o + n) % 5) σ) ((o + n) % 5)) (upT T ((o + n) % 5) σ) o n f x len) H := hP
      have hD : va_D (zA (wX G ad σ T o n f x len)) (wX G ad ((upT T ((o + n) % 5) σ) ((o + n) % 5)) (upT T ((o + n) % 5) σ) o n f x len) := hD
      exact hret _ _ _ _ _ dX4_erase_65 hS (by rw [upT_at] at hP; exact hP) (rfl)
    · skip
      have h27 : (sgn σ k d p) = 10 := (nI_eq (by omega) (by omega)).mp h27
      exact absurd h27 h10s
  · skip
    have h10 : ¬ ((0 ≤ (nI k) ∧ (nI k) < nI (nS σ)) ∧ (0 ≤ (nI d) ∧ (nI d) ≤ 3) ∧ (0 ≤ (nI p) ∧ (nI p) ≤ 9)) := (z_b0).mp h10
    exact absurd hvp h10
set_option maxHeartbeats 4000000 in
set_option maxRecDepth 100000 in
theorem kX4_mean_inv (l : Launch) (G : zG) (ad : Nat → Nat → Nat) (σ : Nat → Nat) (T : Nat → Nat → Nat) (o n : Nat) (f : Nat → Int32) (x : Nat → Nat) (len : Nat) {N : Nat} (x1 : Int32) (x2 : Int32) (x3 : Int32) (hO : Ok N σ) (ho : o < 5) (hn : n ≤ 4) (hv : ¬ ((0 ≤ x1 ∧ x1 < nI (nS σ)) ∧ (nI 0 ≤ x2 ∧ x2 ≤ nI 9) ∧ (nI 0 ≤ x3 ∧ x3 ≤ nI 9))) (hd : va_D (fun _ => True) (wX G ad σ T o n f x len)) : Met l yX4_mean wsX4_mean (zRm 6 138) (zPc G [.ref (ad 0 0), .int x1, .int x2, .int x3] (va_P G.1 vwCl (wX G ad σ T o n f x len))) (zQ (zA (wX G ad σ T o n f x len)) (some (.int ((-1)))) (va_P G.1 vwCl (wX G ad σ T o n f x len))) 0 0 (zA (wX G ad σ T o n f x len)) := by
  refine zmkWi (w := (wX G ad σ T o n f x len)) hd (cc := cX4_mean) (maxL := 5) (by decide) rfl (Nat.le_of_ble_eq_true rfl) ?_
  intro pr en st mi ar bl me cd ls Q hx hb hml hown hts hG hP hl hD hS hret
  have hown : st.vm.findClass RX4 = some mi.cls := hown
  have hl : lv_has ls 5 [(0, .ref (ad 0 0)), (1, .int x1), (2, .int x2), (3, .int x3)] := hl
  have hP : va_P G.1 vwCl (wX G ad σ T o n f x len) st.heap := hP
  have hD : va_D (zA (wX G ad σ T o n f x len)) (wX G ad σ T o n f x len) := hD
  have hinX4 : ∀ w ∈ wsX40, w ∈ wsX4_mean := by decide +kernel
  have hf10 := hts (.fieldLink RX4 10 "MapSheets" "now" "LMapSheets$Atlas;") (by decide +kernel)
  have hc := hO.c
  have hs := hO.lS
  have hr := hO.lR
  have hne := hO.lE
  refine lv_aload_n hx hb dX4_mean_0 rfl (lv_at hl 0 rfl) ?_
  refine va_get (D := G.1) (ci := 4) (v := .ref (ad 1 0)) (C := RX4) (T := TX4) (N := 4) hx hb hts hinX4 hown hG.1 hP 0 rfl rfl 0 (by decide) hf10 (fun _ h9 => h9) rfl dX4_mean_1 ?_
  refine lv_iload_n hx hb dX4_mean_4 rfl (lv_at hl 1 rfl) ?_
  refine zrdV (As := [.int x1]) ⟨hx, hb, hml, hown, hts⟩ (kX0_hasSheet l G (ad 1) σ x1) (cwV 1 hts gX4_mean_X0_hasSheet rfl rfl rfl (by decide +kernel) ⟨Nat.le_of_ble_eq_true rfl, Nat.le_of_ble_eq_true rfl⟩) hG (va_recv (q0 := 0) (ci := 0) hG.1 (wX_pA hP) rfl rfl) ((wX_pA hP)) rfl rfl hl.1 dX4_mean_5 (Nat.le_of_ble_eq_true rfl) ⟨Nat.le_of_ble_eq_true rfl, Nat.le_of_ble_eq_true rfl⟩ ?_
  refine lv_if_eq (tgt := 25) hx hb dX4_mean_8 (by decide) (fun h8 => ?_) (fun h8 => ?_)
  · skip
    have h8 : ¬ (0 ≤ x1 ∧ x1 < nI (nS σ)) := (z_b0).mp h8
    refine lv_iconst (v := (-1)) hx hb dX4_mean_25 (by decide) ?_
    exact hret _ _ _ _ _ dX4_mean_26 hS (hP) (rfl)
  · skip
    have h8 : ¬ (¬ (0 ≤ x1 ∧ x1 < nI (nS σ))) := fun q => h8 ((z_b0).mpr q)
    have h8 : 0 ≤ x1 ∧ x1 < nI (nS σ) := Decidable.of_not_not h8
    refine lv_iload_n hx hb dX4_mean_11 rfl (lv_at hl 2 rfl) ?_
    refine zrdS (As := [.int x2]) ⟨hx, hb, hml, hown, hts⟩ (kX4_isDigit l G  x2) (va_cwS 1 hts gX4_mean_X4_isDigit rfl rfl rfl (by decide +kernel) ⟨Nat.le_of_ble_eq_true rfl, Nat.le_of_ble_eq_true rfl⟩) hG (trivial) rfl rfl hl.1 dX4_mean_12 (Nat.le_of_ble_eq_true rfl) ⟨Nat.le_of_ble_eq_true rfl, Nat.le_of_ble_eq_true rfl⟩ ?_
    refine lv_if_eq (tgt := 25) hx hb dX4_mean_15 (by decide) (fun h15 => ?_) (fun h15 => ?_)
    · skip
      have h15 : ¬ (nI 0 ≤ x2 ∧ x2 ≤ nI 9) := (z_b0).mp h15
      refine lv_iconst (v := (-1)) hx hb dX4_mean_25 (by decide) ?_
      exact hret _ _ _ _ _ dX4_mean_26 hS (hP) (rfl)
    · skip
      have h15 : ¬ (¬ (nI 0 ≤ x2 ∧ x2 ≤ nI 9)) := fun q => h15 ((z_b0).mpr q)
      have h15 : nI 0 ≤ x2 ∧ x2 ≤ nI 9 := Decidable.of_not_not h15
      refine lv_iload_n hx hb dX4_mean_18 rfl (lv_at hl 3 rfl) ?_
      refine zrdS (As := [.int x3]) ⟨hx, hb, hml, hown, hts⟩ (kX4_isDigit l G  x3) (va_cwS 1 hts gX4_mean_X4_isDigit rfl rfl rfl (by decide +kernel) ⟨Nat.le_of_ble_eq_true rfl, Nat.le_of_ble_eq_true rfl⟩) hG (trivial) rfl rfl hl.1 dX4_mean_19 (Nat.le_of_ble_eq_true rfl) ⟨Nat.le_of_ble_eq_true rfl, Nat.le_of_ble_eq_true rfl⟩ ?_
      refine lv_if_ne (tgt := 27) hx hb dX4_mean_22 (by decide) (fun h22 => ?_) (fun h22 => ?_)
      · skip
        have h22 : ¬ (¬ (nI 0 ≤ x3 ∧ x3 ≤ nI 9)) := fun q => h22 ((z_b0).mpr q)
        have h22 : nI 0 ≤ x3 ∧ x3 ≤ nI 9 := Decidable.of_not_not h22
        exact absurd ⟨h8, h15, h22⟩ hv
      · skip
        have h22 : ¬ (nI 0 ≤ x3 ∧ x3 ≤ nI 9) := (z_b0).mp h22
        refine lv_iconst (v := (-1)) hx hb dX4_mean_25 (by decide) ?_
        exact hret _ _ _ _ _ dX4_mean_26 hS (hP) (rfl)
set_option maxHeartbeats 4000000 in
set_option maxRecDepth 100000 in
theorem kX4_mean_ok (l : Launch) (G : zG) (ad : Nat → Nat → Nat) (σ : Nat → Nat) (T : Nat → Nat → Nat) (o n : Nat) (f : Nat → Int32) (x : Nat → Nat) (len : Nat) {N : Nat} (k : Nat) (g : Nat) (v : Nat) (hO : Ok N σ) (ho : o < 5) (hn : n ≤ 4) (hk : k < nS σ) (hg : g < 10) (hv9 : v < 10) (hrf : ¬ rfsd (su σ (104 + 53 * k + g) v) k) (hd : va_D (fun _ => True) (wX G ad σ T o n f x len)) : Met l yX4_mean wsX4_mean (zRm 6 138) (zPc G [.ref (ad 0 0), .int (nI k), .int (nI g), .int (nI v)] (va_P G.1 vwCl (wX G ad σ T o n f x len))) (zQ (zA (wX G ad σ T o n f x len)) (some (.int (nI (mng σ k g)))) (va_P G.1 vwCl (wX G ad (endS (su σ (104 + 53 * k + g) v) k) (upT T ((o + n) % 5) σ) (nO o n) (nN n) f x len))) 0 0 (zA (wX G ad σ T o n f x len)) := by
  refine zmkWi (w := (wX G ad σ T o n f x len)) hd (cc := cX4_mean) (maxL := 5) (by decide) rfl (Nat.le_of_ble_eq_true rfl) ?_
  intro pr en st mi ar bl me cd ls Q hx hb hml hown hts hG hP hl hD hS hret
  have hown : st.vm.findClass RX4 = some mi.cls := hown
  have hl : lv_has ls 5 [(0, .ref (ad 0 0)), (1, .int (nI k)), (2, .int (nI g)), (3, .int (nI v))] := hl
  have hP : va_P G.1 vwCl (wX G ad σ T o n f x len) st.heap := hP
  have hD : va_D (zA (wX G ad σ T o n f x len)) (wX G ad σ T o n f x len) := hD
  have hinX4 : ∀ w ∈ wsX40, w ∈ wsX4_mean := by decide +kernel
  have hf10 := hts (.fieldLink RX4 10 "MapSheets" "now" "LMapSheets$Atlas;") (by decide +kernel)
  have hf19 := hts (.fieldLink RX4 19 "MapSheets" "history" "LMapSheets$History;") (by decide +kernel)
  have hc := hO.c
  have hs := hO.lS
  have hr := hO.lR
  have hne := hO.lE
  have hvs : 0 ≤ nI k ∧ nI k < nI (nS σ) := z_in hk (by omega)
  have hvg : nI 0 ≤ nI g ∧ nI g ≤ nI 9 := z_lem (by omega) (by omega)
  have hvv : nI 0 ≤ nI v ∧ nI v ≤ nI 9 := z_lem (by omega) (by omega)
  refine lv_aload_n hx hb dX4_mean_0 rfl (lv_at hl 0 rfl) ?_
  refine va_get (D := G.1) (ci := 4) (v := .ref (ad 1 0)) (C := RX4) (T := TX4) (N := 4) hx hb hts hinX4 hown hG.1 hP 0 rfl rfl 0 (by decide) hf10 (fun _ h9 => h9) rfl dX4_mean_1 ?_
  refine lv_iload_n hx hb dX4_mean_4 rfl (lv_at hl 1 rfl) ?_
  refine zrdV (As := [.int (nI k)]) ⟨hx, hb, hml, hown, hts⟩ (kX0_hasSheet l G (ad 1) σ (nI k)) (cwV 1 hts gX4_mean_X0_hasSheet rfl rfl rfl (by decide +kernel) ⟨Nat.le_of_ble_eq_true rfl, Nat.le_of_ble_eq_true rfl⟩) hG (va_recv (q0 := 0) (ci := 0) hG.1 (wX_pA hP) rfl rfl) ((wX_pA hP)) rfl rfl hl.1 dX4_mean_5 (Nat.le_of_ble_eq_true rfl) ⟨Nat.le_of_ble_eq_true rfl, Nat.le_of_ble_eq_true rfl⟩ ?_
  refine lv_if_eq (tgt := 25) hx hb dX4_mean_8 (by decide) (fun h8 => ?_) (fun h8 => ?_)
  · skip
    have h8 : ¬ (0 ≤ (nI k) ∧ (nI k) < nI (nS σ)) := (z_b0).mp h8
    exact absurd hvs h8
  · skip
    have h8 : ¬ (¬ (0 ≤ (nI k) ∧ (nI k) < nI (nS σ))) := fun q => h8 ((z_b0).mpr q)
    have h8 : 0 ≤ (nI k) ∧ (nI k) < nI (nS σ) := Decidable.of_not_not h8
    refine lv_iload_n hx hb dX4_mean_11 rfl (lv_at hl 2 rfl) ?_
    refine zrdS (As := [.int (nI g)]) ⟨hx, hb, hml, hown, hts⟩ (kX4_isDigit l G  (nI g)) (va_cwS 1 hts gX4_mean_X4_isDigit rfl rfl rfl (by decide +kernel) ⟨Nat.le_of_ble_eq_true rfl, Nat.le_of_ble_eq_true rfl⟩) hG (trivial) rfl rfl hl.1 dX4_mean_12 (Nat.le_of_ble_eq_true rfl) ⟨Nat.le_of_ble_eq_true rfl, Nat.le_of_ble_eq_true rfl⟩ ?_
    refine lv_if_eq (tgt := 25) hx hb dX4_mean_15 (by decide) (fun h15 => ?_) (fun h15 => ?_)
    · skip
      have h15 : ¬ (nI 0 ≤ (nI g) ∧ (nI g) ≤ nI 9) := (z_b0).mp h15
      exact absurd hvg h15
    · skip
      have h15 : ¬ (¬ (nI 0 ≤ (nI g) ∧ (nI g) ≤ nI 9)) := fun q => h15 ((z_b0).mpr q)
      have h15 : nI 0 ≤ (nI g) ∧ (nI g) ≤ nI 9 := Decidable.of_not_not h15
      refine lv_iload_n hx hb dX4_mean_18 rfl (lv_at hl 3 rfl) ?_
      refine zrdS (As := [.int (nI v)]) ⟨hx, hb, hml, hown, hts⟩ (kX4_isDigit l G  (nI v)) (va_cwS 1 hts gX4_mean_X4_isDigit rfl rfl rfl (by decide +kernel) ⟨Nat.le_of_ble_eq_true rfl, Nat.le_of_ble_eq_true rfl⟩) hG (trivial) rfl rfl hl.1 dX4_mean_19 (Nat.le_of_ble_eq_true rfl) ⟨Nat.le_of_ble_eq_true rfl, Nat.le_of_ble_eq_true rfl⟩ ?_
      refine lv_if_ne (tgt := 27) hx hb dX4_mean_22 (by decide) (fun h22 => ?_) (fun h22 => ?_)
      · skip
        have h22 : ¬ (¬ (nI 0 ≤ (nI v) ∧ (nI v) ≤ nI 9)) := fun q => h22 ((z_b0).mpr q)
        have h22 : nI 0 ≤ (nI v) ∧ (nI v) ≤ nI 9 := Decidable.of_not_not h22
        refine lv_aload_n hx hb dX4_mean_27 rfl (lv_at hl 0 rfl) ?_
        refine va_get (D := G.1) (ci := 4) (v := .ref (ad 2 0)) (C := RX4) (T := TX4) (N := 4) hx hb hts hinX4 hown hG.1 hP 0 rfl rfl 1 (by decide) hf19 (fun _ h9 => h9) rfl dX4_mean_28 ?_
        refine lv_aload_n hx hb dX4_mean_31 rfl (lv_at hl 0 rfl) ?_
        refine va_get (D := G.1) (ci := 4) (v := .ref (ad 1 0)) (C := RX4) (T := TX4) (N := 4) hx hb hts hinX4 hown hG.1 hP 0 rfl rfl 0 (by decide) hf10 (fun _ h9 => h9) rfl dX4_mean_32 ?_
        refine zwrEv (G := G) (wc' := (wHo G (ad 2) (aH ad) o n ++ (wTs G (aH ad) (upT T ((o + n) % 5) σ) 5 ++ wA G (ad 1) σ))) (ws' := (wX G ad σ (upT T ((o + n) % 5) σ) o n f x len)) (va_runV (As := [.ref (ad 1 0)]) (rest := []) ⟨hx, hb, hml, hown, hts⟩ (kX2_recordState l G (ad 2) (aH ad) o n T (ad 1) σ (by omega) (by omega) (zD_any (wX_dHA hD))) (cwV 1 hts gX4_mean_X2_recordState rfl rfl rfl (by decide +kernel) ⟨Nat.le_of_ble_eq_true rfl, Nat.le_of_ble_eq_true rfl⟩) (zPreV hG (va_recv (q0 := 0) (ci := 2) hG.1 (wX_pH hP) rfl rfl) (wX_pHA hP)) rfl rfl hl.1 rfl (lv_room (Nat.le_of_ble_eq_true rfl)) dX4_mean_35 ⟨Nat.le_of_ble_eq_true rfl, Nat.le_of_ble_eq_true rfl⟩) (wX_eHA) (wX_eHA) hP hD hS (wHA_map _ _ _ _ _ _ _ _ _ _ _ _) (fun H locs hP hD hS => ?_)
        have hP : va_P G.1 vwCl (wX G ad σ (upT T ((o + n) % 5) σ) o n f x len) H := hP
        have hD : va_D (zA (wX G ad σ T o n f x len)) (wX G ad σ (upT T ((o + n) % 5) σ) o n f x len) := hD
        refine lv_aload_n hx hb dX4_mean_38 rfl (lv_at hl 0 rfl) ?_
        refine va_get (D := G.1) (ci := 4) (v := .ref (ad 1 0)) (C := RX4) (T := TX4) (N := 4) hx hb hts hinX4 hown hG.1 hP 0 rfl rfl 0 (by decide) hf10 (fun _ h9 => h9) rfl dX4_mean_39 ?_
        refine lv_iload_n hx hb dX4_mean_42 rfl (lv_at hl 1 rfl) ?_
        refine lv_iload_n hx hb dX4_mean_43 rfl (lv_at hl 2 rfl) ?_
        refine lv_iload_n hx hb dX4_mean_44 rfl (lv_at hl 3 rfl) ?_
        refine zwrE (G := G) (wc' := (wA G (ad 1) (su σ (104 + 53 * k + g) v))) (ws' := (wX G ad (su σ (104 + 53 * k + g) v) (upT T ((o + n) % 5) σ) o n f x len)) (va_runV (As := [.int (nI k), .int (nI g), .int (nI v)]) (rest := []) ⟨hx, hb, hml, hown, hts⟩ (kX0_putMeaning l G (ad 1) σ k g v (by omega) (by omega) (zD_any (wX_dA hD))) (cwV 3 hts gX4_mean_X0_putMeaning rfl rfl rfl (by decide +kernel) ⟨Nat.le_of_ble_eq_true rfl, Nat.le_of_ble_eq_true rfl⟩) (zPreV hG (va_recv (q0 := 0) (ci := 0) hG.1 (wX_pA hP) rfl rfl) ((wX_pA hP))) rfl rfl hl.1 rfl (lv_room (Nat.le_of_ble_eq_true rfl)) dX4_mean_45 ⟨Nat.le_of_ble_eq_true rfl, Nat.le_of_ble_eq_true rfl⟩) (wX_eA) (wX_eA) hP hD hS rfl (fun H locs hP hD hS => ?_)
        have hP : va_P G.1 vwCl (wX G ad (su σ (104 + 53 * k + g) v) (upT T ((o + n) % 5) σ) o n f x len) H := hP
        have hD : va_D (zA (wX G ad σ T o n f x len)) (wX G ad (su σ (104 + 53 * k + g) v) (upT T ((o + n) % 5) σ) o n f x len) := hD
        refine lv_istore (lv' := [(4, .int (nI (mng σ k g))), (0, .ref (ad 0 0)), (1, .int (nI k)), (2, .int (nI g)), (3, .int (nI v))]) hx hb dX4_mean_48 hl (by decide) rfl (fun ls hl => ?_)
        refine lv_aload_n hx hb dX4_mean_50 rfl (lv_at hl 1 rfl) ?_
        refine lv_iload_n hx hb dX4_mean_51 rfl (lv_at hl 2 rfl) ?_
        refine lv_iload hx hb dX4_mean_52 (lv_at hl 0 rfl) ?_
        refine zwrW (G := G) (wc := (wX G ad (su σ (104 + 53 * k + g) v) (upT T ((o + n) % 5) σ) o n f x len)) (wc' := (wX G ad (endS (su σ (104 + 53 * k + g) v) k) (upT T ((o + n) % 5) σ) (nO o n) (nN n) f x len)) (va_runV (As := [.int (nI k), .int (nI (mng σ k g))]) (rest := []) ⟨hx, hb, hml, hown, hts⟩ (kX4_endRevision_ok l G ad (su σ (104 + 53 * k + g) v) (upT T ((o + n) % 5) σ) o n f x len k (mng σ k g) (hO.su_mn (by omega) (by omega)) ho hn (by rw [nS_su (by omega)]; exact hk) (hrf) (zD_any hD)) (cwV 2 hts gX4_mean_X4_endRevision rfl rfl rfl (by decide +kernel) ⟨Nat.le_of_ble_eq_true rfl, Nat.le_of_ble_eq_true rfl⟩) (zPreV hG (va_recv (q0 := 0) (ci := 4) hG.1 hP rfl rfl) (hP)) rfl rfl hl.1 rfl (lv_room (Nat.le_of_ble_eq_true rfl)) dX4_mean_54 ⟨Nat.le_of_ble_eq_true rfl, Nat.le_of_ble_eq_true rfl⟩) hP hD hS (wX_map ..) (fun H locs hP hD hS => ?_)
        have hP : va_P G.1 vwCl (wX G ad (endS (su σ (104 + 53 * k + g) v) k) (upT T ((o + n) % 5) σ) (nO o n) (nN n) f x len) H := hP
        have hD : va_D (zA (wX G ad σ T o n f x len)) (wX G ad (endS (su σ (104 + 53 * k + g) v) k) (upT T ((o + n) % 5) σ) (nO o n) (nN n) f x len) := hD
        exact hret _ _ _ _ _ dX4_mean_57 hS (hP) (congrArg nI (rfl))
      · skip
        have h22 : ¬ (nI 0 ≤ (nI v) ∧ (nI v) ≤ nI 9) := (z_b0).mp h22
        exact absurd hvv h22
set_option maxHeartbeats 4000000 in
set_option maxRecDepth 100000 in
theorem kX4_mean_no (l : Launch) (G : zG) (ad : Nat → Nat → Nat) (σ : Nat → Nat) (T : Nat → Nat → Nat) (o n : Nat) (f : Nat → Int32) (x : Nat → Nat) (len : Nat) {N : Nat} (k : Nat) (g : Nat) (v : Nat) (hO : Ok N σ) (ho : o < 5) (hn : n ≤ 4) (hk : k < nS σ) (hg : g < 10) (hv9 : v < 10) (hrf : rfsd (su σ (104 + 53 * k + g) v) k) (hd : va_D (fun _ => True) (wX G ad σ T o n f x len)) : Met l yX4_mean wsX4_mean (zRm 6 138) (zPc G [.ref (ad 0 0), .int (nI k), .int (nI g), .int (nI v)] (va_P G.1 vwCl (wX G ad σ T o n f x len))) (zQ (zA (wX G ad σ T o n f x len)) (some (.int ((-2)))) (va_P G.1 vwCl (wX G ad σ (upT T ((o + n) % 5) σ) o n f x len))) 0 0 (zA (wX G ad σ T o n f x len)) := by
  refine zmkWi (w := (wX G ad σ T o n f x len)) hd (cc := cX4_mean) (maxL := 5) (by decide) rfl (Nat.le_of_ble_eq_true rfl) ?_
  intro pr en st mi ar bl me cd ls Q hx hb hml hown hts hG hP hl hD hS hret
  have hown : st.vm.findClass RX4 = some mi.cls := hown
  have hl : lv_has ls 5 [(0, .ref (ad 0 0)), (1, .int (nI k)), (2, .int (nI g)), (3, .int (nI v))] := hl
  have hP : va_P G.1 vwCl (wX G ad σ T o n f x len) st.heap := hP
  have hD : va_D (zA (wX G ad σ T o n f x len)) (wX G ad σ T o n f x len) := hD
  have hinX4 : ∀ w ∈ wsX40, w ∈ wsX4_mean := by decide +kernel
  have hf10 := hts (.fieldLink RX4 10 "MapSheets" "now" "LMapSheets$Atlas;") (by decide +kernel)
  have hf19 := hts (.fieldLink RX4 19 "MapSheets" "history" "LMapSheets$History;") (by decide +kernel)
  have hc := hO.c
  have hs := hO.lS
  have hr := hO.lR
  have hne := hO.lE
  have hvs : 0 ≤ nI k ∧ nI k < nI (nS σ) := z_in hk (by omega)
  have hvg : nI 0 ≤ nI g ∧ nI g ≤ nI 9 := z_lem (by omega) (by omega)
  have hvv : nI 0 ≤ nI v ∧ nI v ≤ nI 9 := z_lem (by omega) (by omega)
  refine lv_aload_n hx hb dX4_mean_0 rfl (lv_at hl 0 rfl) ?_
  refine va_get (D := G.1) (ci := 4) (v := .ref (ad 1 0)) (C := RX4) (T := TX4) (N := 4) hx hb hts hinX4 hown hG.1 hP 0 rfl rfl 0 (by decide) hf10 (fun _ h9 => h9) rfl dX4_mean_1 ?_
  refine lv_iload_n hx hb dX4_mean_4 rfl (lv_at hl 1 rfl) ?_
  refine zrdV (As := [.int (nI k)]) ⟨hx, hb, hml, hown, hts⟩ (kX0_hasSheet l G (ad 1) σ (nI k)) (cwV 1 hts gX4_mean_X0_hasSheet rfl rfl rfl (by decide +kernel) ⟨Nat.le_of_ble_eq_true rfl, Nat.le_of_ble_eq_true rfl⟩) hG (va_recv (q0 := 0) (ci := 0) hG.1 (wX_pA hP) rfl rfl) ((wX_pA hP)) rfl rfl hl.1 dX4_mean_5 (Nat.le_of_ble_eq_true rfl) ⟨Nat.le_of_ble_eq_true rfl, Nat.le_of_ble_eq_true rfl⟩ ?_
  refine lv_if_eq (tgt := 25) hx hb dX4_mean_8 (by decide) (fun h8 => ?_) (fun h8 => ?_)
  · skip
    have h8 : ¬ (0 ≤ (nI k) ∧ (nI k) < nI (nS σ)) := (z_b0).mp h8
    exact absurd hvs h8
  · skip
    have h8 : ¬ (¬ (0 ≤ (nI k) ∧ (nI k) < nI (nS σ))) := fun q => h8 ((z_b0).mpr q)
    have h8 : 0 ≤ (nI k) ∧ (nI k) < nI (nS σ) := Decidable.of_not_not h8
    refine lv_iload_n hx hb dX4_mean_11 rfl (lv_at hl 2 rfl) ?_
    refine zrdS (As := [.int (nI g)]) ⟨hx, hb, hml, hown, hts⟩ (kX4_isDigit l G  (nI g)) (va_cwS 1 hts gX4_mean_X4_isDigit rfl rfl rfl (by decide +kernel) ⟨Nat.le_of_ble_eq_true rfl, Nat.le_of_ble_eq_true rfl⟩) hG (trivial) rfl rfl hl.1 dX4_mean_12 (Nat.le_of_ble_eq_true rfl) ⟨Nat.le_of_ble_eq_true rfl, Nat.le_of_ble_eq_true rfl⟩ ?_
    refine lv_if_eq (tgt := 25) hx hb dX4_mean_15 (by decide) (fun h15 => ?_) (fun h15 => ?_)
    · skip
      have h15 : ¬ (nI 0 ≤ (nI g) ∧ (nI g) ≤ nI 9) := (z_b0).mp h15
      exact absurd hvg h15
    · skip
      have h15 : ¬ (¬ (nI 0 ≤ (nI g) ∧ (nI g) ≤ nI 9)) := fun q => h15 ((z_b0).mpr q)
      have h15 : nI 0 ≤ (nI g) ∧ (nI g) ≤ nI 9 := Decidable.of_not_not h15
      refine lv_iload_n hx hb dX4_mean_18 rfl (lv_at hl 3 rfl) ?_
      refine zrdS (As := [.int (nI v)]) ⟨hx, hb, hml, hown, hts⟩ (kX4_isDigit l G  (nI v)) (va_cwS 1 hts gX4_mean_X4_isDigit rfl rfl rfl (by decide +kernel) ⟨Nat.le_of_ble_eq_true rfl, Nat.le_of_ble_eq_true rfl⟩) hG (trivial) rfl rfl hl.1 dX4_mean_19 (Nat.le_of_ble_eq_true rfl) ⟨Nat.le_of_ble_eq_true rfl, Nat.le_of_ble_eq_true rfl⟩ ?_
      refine lv_if_ne (tgt := 27) hx hb dX4_mean_22 (by decide) (fun h22 => ?_) (fun h22 => ?_)
      · skip
        have h22 : ¬ (¬ (nI 0 ≤ (nI v) ∧ (nI v) ≤ nI 9)) := fun q => h22 ((z_b0).mpr q)
        have h22 : nI 0 ≤ (nI v) ∧ (nI v) ≤ nI 9 := Decidable.of_not_not h22
        refine lv_aload_n hx hb dX4_mean_27 rfl (lv_at hl 0 rfl) ?_
        refine va_get (D := G.1) (ci := 4) (v := .ref (ad 2 0)) (C := RX4) (T := TX4) (N := 4) hx hb hts hinX4 hown hG.1 hP 0 rfl rfl 1 (by decide) hf19 (fun _ h9 => h9) rfl dX4_mean_28 ?_
        refine lv_aload_n hx hb dX4_mean_31 rfl (lv_at hl 0 rfl) ?_
        refine va_get (D := G.1) (ci := 4) (v := .ref (ad 1 0)) (C := RX4) (T := TX4) (N := 4) hx hb hts hinX4 hown hG.1 hP 0 rfl rfl 0 (by decide) hf10 (fun _ h9 => h9) rfl dX4_mean_32 ?_
        refine zwrEv (G := G) (wc' := (wHo G (ad 2) (aH ad) o n ++ (wTs G (aH ad) (upT T ((o + n) % 5) σ) 5 ++ wA G (ad 1) σ))) (ws' := (wX G ad σ (upT T ((o + n) % 5) σ) o n f x len)) (va_runV (As := [.ref (ad 1 0)]) (rest := []) ⟨hx, hb, hml, hown, hts⟩ (kX2_recordState l G (ad 2) (aH ad) o n T (ad 1) σ (by omega) (by omega) (zD_any (wX_dHA hD))) (cwV 1 hts gX4_mean_X2_recordState rfl rfl rfl (by decide +kernel) ⟨Nat.le_of_ble_eq_true rfl, Nat.le_of_ble_eq_true rfl⟩) (zPreV hG (va_recv (q0 := 0) (ci := 2) hG.1 (wX_pH hP) rfl rfl) (wX_pHA hP)) rfl rfl hl.1 rfl (lv_room (Nat.le_of_ble_eq_true rfl)) dX4_mean_35 ⟨Nat.le_of_ble_eq_true rfl, Nat.le_of_ble_eq_true rfl⟩) (wX_eHA) (wX_eHA) hP hD hS (wHA_map _ _ _ _ _ _ _ _ _ _ _ _) (fun H locs hP hD hS => ?_)
        have hP : va_P G.1 vwCl (wX G ad σ (upT T ((o + n) % 5) σ) o n f x len) H := hP
        have hD : va_D (zA (wX G ad σ T o n f x len)) (wX G ad σ (upT T ((o + n) % 5) σ) o n f x len) := hD
        refine lv_aload_n hx hb dX4_mean_38 rfl (lv_at hl 0 rfl) ?_
        refine va_get (D := G.1) (ci := 4) (v := .ref (ad 1 0)) (C := RX4) (T := TX4) (N := 4) hx hb hts hinX4 hown hG.1 hP 0 rfl rfl 0 (by decide) hf10 (fun _ h9 => h9) rfl dX4_mean_39 ?_
        refine lv_iload_n hx hb dX4_mean_42 rfl (lv_at hl 1 rfl) ?_
        refine lv_iload_n hx hb dX4_mean_43 rfl (lv_at hl 2 rfl) ?_
        refine lv_iload_n hx hb dX4_mean_44 rfl (lv_at hl 3 rfl) ?_
        refine zwrE (G := G) (wc' := (wA G (ad 1) (su σ (104 + 53 * k + g) v))) (ws' := (wX G ad (su σ (104 + 53 * k + g) v) (upT T ((o + n) % 5) σ) o n f x len)) (va_runV (As := [.int (nI k), .int (nI g), .int (nI v)]) (rest := []) ⟨hx, hb, hml, hown, hts⟩ (kX0_putMeaning l G (ad 1) σ k g v (by omega) (by omega) (zD_any (wX_dA hD))) (cwV 3 hts gX4_mean_X0_putMeaning rfl rfl rfl (by decide +kernel) ⟨Nat.le_of_ble_eq_true rfl, Nat.le_of_ble_eq_true rfl⟩) (zPreV hG (va_recv (q0 := 0) (ci := 0) hG.1 (wX_pA hP) rfl rfl) ((wX_pA hP))) rfl rfl hl.1 rfl (lv_room (Nat.le_of_ble_eq_true rfl)) dX4_mean_45 ⟨Nat.le_of_ble_eq_true rfl, Nat.le_of_ble_eq_true rfl⟩) (wX_eA) (wX_eA) hP hD hS rfl (fun H locs hP hD hS => ?_)
        have hP : va_P G.1 vwCl (wX G ad (su σ (104 + 53 * k + g) v) (upT T ((o + n) % 5) σ) o n f x len) H := hP
        have hD : va_D (zA (wX G ad σ T o n f x len)) (wX G ad (su σ (104 + 53 * k + g) v) (upT T ((o + n) % 5) σ) o n f x len) := hD
        refine lv_istore (lv' := [(4, .int (nI (mng σ k g))), (0, .ref (ad 0 0)), (1, .int (nI k)), (2, .int (nI g)), (3, .int (nI v))]) hx hb dX4_mean_48 hl (by decide) rfl (fun ls hl => ?_)
        refine lv_aload_n hx hb dX4_mean_50 rfl (lv_at hl 1 rfl) ?_
        refine lv_iload_n hx hb dX4_mean_51 rfl (lv_at hl 2 rfl) ?_
        refine lv_iload hx hb dX4_mean_52 (lv_at hl 0 rfl) ?_
        refine zwrW (G := G) (wc := (wX G ad (su σ (104 + 53 * k + g) v) (upT T ((o + n) % 5) σ) o n f x len)) (wc' := (wX G ad ((upT T ((o + n) % 5) σ) ((o + n) % 5)) (upT T ((o + n) % 5) σ) o n f x len)) (va_runV (As := [.int (nI k), .int (nI (mng σ k g))]) (rest := []) ⟨hx, hb, hml, hown, hts⟩ (kX4_endRevision_no l G ad (su σ (104 + 53 * k + g) v) (upT T ((o + n) % 5) σ) o n f x len k (mng σ k g) (hO.su_mn (by omega) (by omega)) ho hn (by rw [nS_su (by omega)]; exact hk) (hrf) (zD_any hD)) (cwV 2 hts gX4_mean_X4_endRevision rfl rfl rfl (by decide +kernel) ⟨Nat.le_of_ble_eq_true rfl, Nat.le_of_ble_eq_true rfl⟩) (zPreV hG (va_recv (q0 := 0) (ci := 4) hG.1 hP rfl rfl) (hP)) rfl rfl hl.1 rfl (lv_room (Nat.le_of_ble_eq_true rfl)) dX4_mean_54 ⟨Nat.le_of_ble_eq_true rfl, Nat.le_of_ble_eq_true rfl⟩) hP hD hS (wX_map ..) (fun H locs hP hD hS => ?_)
        have hP : va_P G.1 vwCl (wX G ad ((upT T ((o + n) % 5) σ) ((o + n) % 5)) (upT T ((o + n) % 5) σ) o n f x len) H := hP
        have hD : va_D (zA (wX G ad σ T o n f x len)) (wX G ad ((upT T ((o + n) % 5) σ) ((o + n) % 5)) (upT T ((o + n) % 5) σ) o n f x len) := hD
        exact hret _ _ _ _ _ dX4_mean_57 hS (by rw [upT_at] at hP; exact hP) (rfl)
      · skip
        have h22 : ¬ (nI 0 ≤ (nI v) ∧ (nI v) ≤ nI 9) := (z_b0).mp h22
        exact absurd hvv h22
set_option maxHeartbeats 4000000 in
set_option maxRecDepth 100000 in
theorem kX4_sign_inv (l : Launch) (G : zG) (ad : Nat → Nat → Nat) (σ : Nat → Nat) (T : Nat → Nat → Nat) (o n : Nat) (f : Nat → Int32) (x : Nat → Nat) (len : Nat) {N : Nat} (x1 : Int32) (x2 : Int32) (x3 : Int32) (hO : Ok N σ) (ho : o < 5) (hn : n ≤ 4) (hv : ¬ ((0 ≤ x1 ∧ x1 < nI (nS σ)) ∧ (0 ≤ x2 ∧ x2 ≤ 3) ∧ (0 ≤ x3 ∧ x3 ≤ 9))) (hd : va_D (fun _ => True) (wX G ad σ T o n f x len)) : Met l yX4_sign wsX4_sign (zRm 3 64) (zPc G [.ref (ad 0 0), .int x1, .int x2, .int x3] (va_P G.1 vwCl (wX G ad σ T o n f x len))) (zQ (zA (wX G ad σ T o n f x len)) (some (.int ((-1)))) (va_P G.1 vwCl (wX G ad σ T o n f x len))) 0 0 (zA (wX G ad σ T o n f x len)) := by
  refine zmkWi (w := (wX G ad σ T o n f x len)) hd (cc := cX4_sign) (maxL := 5) (by decide) rfl (Nat.le_of_ble_eq_true rfl) ?_
  intro pr en st mi ar bl me cd ls Q hx hb hml hown hts hG hP hl hD hS hret
  have hown : st.vm.findClass RX4 = some mi.cls := hown
  have hl : lv_has ls 5 [(0, .ref (ad 0 0)), (1, .int x1), (2, .int x2), (3, .int x3)] := hl
  have hP : va_P G.1 vwCl (wX G ad σ T o n f x len) st.heap := hP
  have hD : va_D (zA (wX G ad σ T o n f x len)) (wX G ad σ T o n f x len) := hD
  have hinX4 : ∀ w ∈ wsX40, w ∈ wsX4_sign := by decide +kernel
  have hf10 := hts (.fieldLink RX4 10 "MapSheets" "now" "LMapSheets$Atlas;") (by decide +kernel)
  have hc := hO.c
  have hs := hO.lS
  have hr := hO.lR
  have hne := hO.lE
  refine lv_aload_n hx hb dX4_sign_0 rfl (lv_at hl 0 rfl) ?_
  refine va_get (D := G.1) (ci := 4) (v := .ref (ad 1 0)) (C := RX4) (T := TX4) (N := 4) hx hb hts hinX4 hown hG.1 hP 0 rfl rfl 0 (by decide) hf10 (fun _ h9 => h9) rfl dX4_sign_1 ?_
  refine lv_iload_n hx hb dX4_sign_4 rfl (lv_at hl 1 rfl) ?_
  refine lv_iload_n hx hb dX4_sign_5 rfl (lv_at hl 2 rfl) ?_
  refine lv_iload_n hx hb dX4_sign_6 rfl (lv_at hl 3 rfl) ?_
  refine zrdV (As := [.int x1, .int x2, .int x3]) ⟨hx, hb, hml, hown, hts⟩ (kX0_hasPlace l G (ad 1) σ x1 x2 x3) (cwV 3 hts gX4_sign_X0_hasPlace rfl rfl rfl (by decide +kernel) ⟨Nat.le_of_ble_eq_true rfl, Nat.le_of_ble_eq_true rfl⟩) hG (va_recv (q0 := 0) (ci := 0) hG.1 (wX_pA hP) rfl rfl) ((wX_pA hP)) rfl rfl hl.1 dX4_sign_7 (Nat.le_of_ble_eq_true rfl) ⟨Nat.le_of_ble_eq_true rfl, Nat.le_of_ble_eq_true rfl⟩ ?_
  refine lv_if_ne (tgt := 15) hx hb dX4_sign_10 (by decide) (fun h10 => ?_) (fun h10 => ?_)
  · skip
    have h10 : ¬ (¬ ((0 ≤ x1 ∧ x1 < nI (nS σ)) ∧ (0 ≤ x2 ∧ x2 ≤ 3) ∧ (0 ≤ x3 ∧ x3 ≤ 9))) := fun q => h10 ((z_b0).mpr q)
    have h10 : (0 ≤ x1 ∧ x1 < nI (nS σ)) ∧ (0 ≤ x2 ∧ x2 ≤ 3) ∧ (0 ≤ x3 ∧ x3 ≤ 9) := Decidable.of_not_not h10
    exact absurd h10 hv
  · skip
    have h10 : ¬ ((0 ≤ x1 ∧ x1 < nI (nS σ)) ∧ (0 ≤ x2 ∧ x2 ≤ 3) ∧ (0 ≤ x3 ∧ x3 ≤ 9)) := (z_b0).mp h10
    refine lv_iconst (v := (-1)) hx hb dX4_sign_13 (by decide) ?_
    exact hret _ _ _ _ _ dX4_sign_14 hS (hP) (rfl)
set_option maxHeartbeats 4000000 in
set_option maxRecDepth 100000 in
theorem kX4_sign_ok (l : Launch) (G : zG) (ad : Nat → Nat → Nat) (σ : Nat → Nat) (T : Nat → Nat → Nat) (o n : Nat) (f : Nat → Int32) (x : Nat → Nat) (len : Nat) {N : Nat} (k : Nat) (d : Nat) (p : Nat) (hO : Ok N σ) (ho : o < 5) (hn : n ≤ 4) (hk : k < nS σ) (hd4 : d < 4) (hp : p < 10) (hd : va_D (fun _ => True) (wX G ad σ T o n f x len)) : Met l yX4_sign wsX4_sign (zRm 3 64) (zPc G [.ref (ad 0 0), .int (nI k), .int (nI d), .int (nI p)] (va_P G.1 vwCl (wX G ad σ T o n f x len))) (zQ (zA (wX G ad σ T o n f x len)) (some (.int (zc 10 (sgn σ k d p)))) (va_P G.1 vwCl (wX G ad σ T o n f x len))) 0 0 (zA (wX G ad σ T o n f x len)) := by
  refine zmkWi (w := (wX G ad σ T o n f x len)) hd (cc := cX4_sign) (maxL := 5) (by decide) rfl (Nat.le_of_ble_eq_true rfl) ?_
  intro pr en st mi ar bl me cd ls Q hx hb hml hown hts hG hP hl hD hS hret
  have hown : st.vm.findClass RX4 = some mi.cls := hown
  have hl : lv_has ls 5 [(0, .ref (ad 0 0)), (1, .int (nI k)), (2, .int (nI d)), (3, .int (nI p))] := hl
  have hP : va_P G.1 vwCl (wX G ad σ T o n f x len) st.heap := hP
  have hD : va_D (zA (wX G ad σ T o n f x len)) (wX G ad σ T o n f x len) := hD
  have hinX4 : ∀ w ∈ wsX40, w ∈ wsX4_sign := by decide +kernel
  have hf10 := hts (.fieldLink RX4 10 "MapSheets" "now" "LMapSheets$Atlas;") (by decide +kernel)
  have hc := hO.c
  have hs := hO.lS
  have hr := hO.lR
  have hne := hO.lE
  have hvp : (0 ≤ nI k ∧ nI k < nI (nS σ)) ∧ (0 ≤ nI d ∧ nI d ≤ 3) ∧ (0 ≤ nI p ∧ nI p ≤ 9) := ⟨z_in hk (by omega), z_lem (m := 3) (by omega) (by omega), z_lem (m := 9) (by omega) (by omega)⟩
  have hsg := hO.sg (show k < 36 by omega) hd4 hp
  refine lv_aload_n hx hb dX4_sign_0 rfl (lv_at hl 0 rfl) ?_
  refine va_get (D := G.1) (ci := 4) (v := .ref (ad 1 0)) (C := RX4) (T := TX4) (N := 4) hx hb hts hinX4 hown hG.1 hP 0 rfl rfl 0 (by decide) hf10 (fun _ h9 => h9) rfl dX4_sign_1 ?_
  refine lv_iload_n hx hb dX4_sign_4 rfl (lv_at hl 1 rfl) ?_
  refine lv_iload_n hx hb dX4_sign_5 rfl (lv_at hl 2 rfl) ?_
  refine lv_iload_n hx hb dX4_sign_6 rfl (lv_at hl 3 rfl) ?_
  refine zrdV (As := [.int (nI k), .int (nI d), .int (nI p)]) ⟨hx, hb, hml, hown, hts⟩ (kX0_hasPlace l G (ad 1) σ (nI k) (nI d) (nI p)) (cwV 3 hts gX4_sign_X0_hasPlace rfl rfl rfl (by decide +kernel) ⟨Nat.le_of_ble_eq_true rfl, Nat.le_of_ble_eq_true rfl⟩) hG (va_recv (q0 := 0) (ci := 0) hG.1 (wX_pA hP) rfl rfl) ((wX_pA hP)) rfl rfl hl.1 dX4_sign_7 (Nat.le_of_ble_eq_true rfl) ⟨Nat.le_of_ble_eq_true rfl, Nat.le_of_ble_eq_true rfl⟩ ?_
  refine lv_if_ne (tgt := 15) hx hb dX4_sign_10 (by decide) (fun h10 => ?_) (fun h10 => ?_)
  · skip
    have h10 : ¬ (¬ ((0 ≤ (nI k) ∧ (nI k) < nI (nS σ)) ∧ (0 ≤ (nI d) ∧ (nI d) ≤ 3) ∧ (0 ≤ (nI p) ∧ (nI p) ≤ 9))) := fun q => h10 ((z_b0).mpr q)
    have h10 : (0 ≤ (nI k) ∧ (nI k) < nI (nS σ)) ∧ (0 ≤ (nI d) ∧ (nI d) ≤ 3) ∧ (0 ≤ (nI p) ∧ (nI p) ≤ 9) := Decidable.of_not_not h10
    refine lv_aload_n hx hb dX4_sign_15 rfl (lv_at hl 0 rfl) ?_
    refine va_get (D := G.1) (ci := 4) (v := .ref (ad 1 0)) (C := RX4) (T := TX4) (N := 4) hx hb hts hinX4 hown hG.1 hP 0 rfl rfl 0 (by decide) hf10 (fun _ h9 => h9) rfl dX4_sign_16 ?_
    refine lv_iload_n hx hb dX4_sign_19 rfl (lv_at hl 1 rfl) ?_
    refine lv_iload_n hx hb dX4_sign_20 rfl (lv_at hl 2 rfl) ?_
    refine lv_iload_n hx hb dX4_sign_21 rfl (lv_at hl 3 rfl) ?_
    refine zrdV (As := [.int (nI k), .int (nI d), .int (nI p)]) ⟨hx, hb, hml, hown, hts⟩ (kX0_signAt l G (ad 1) σ k d p (by omega) (by omega) (by omega)) (cwV 3 hts gX4_sign_X0_signAt rfl rfl rfl (by decide +kernel) ⟨Nat.le_of_ble_eq_true rfl, Nat.le_of_ble_eq_true rfl⟩) hG (va_recv (q0 := 0) (ci := 0) hG.1 (wX_pA hP) rfl rfl) ((wX_pA hP)) rfl rfl hl.1 dX4_sign_22 (Nat.le_of_ble_eq_true rfl) ⟨Nat.le_of_ble_eq_true rfl, Nat.le_of_ble_eq_true rfl⟩ ?_
    refine lv_istore (lv' := [(4, .int (nI (sgn σ k d p))), (0, .ref (ad 0 0)), (1, .int (nI k)), (2, .int (nI d)), (3, .int (nI p))]) hx hb dX4_sign_25 hl (by decide) rfl (fun ls hl => ?_)
    refine lv_iload hx hb dX4_sign_27 (lv_at hl 0 rfl) ?_
    refine lv_bipush (v := nI 10) hx hb dX4_sign_29 (by decide) ?_
    refine lv_icmp_ne (tgt := 39) hx hb dX4_sign_31 (by decide) (fun h31 => ?_) (fun h31 => ?_)
    · skip
      have h31 : ¬ ((sgn σ k d p) = 10) := fun q => h31 ((nI_eq (by omega) (by omega)).mpr q)
      refine lv_iload hx hb dX4_sign_39 (lv_at hl 0 rfl) ?_
      exact hret _ _ _ _ _ dX4_sign_41 hS (hP) (by rw [zc_n h31])
    · skip
      have h31 : (sgn σ k d p) = 10 := (nI_eq (by omega) (by omega)).mp h31
      refine lv_bipush (v := (-4)) hx hb dX4_sign_34 (by decide) ?_
      refine lv_goto (tgt := 41) hx hb dX4_sign_36 (by decide) ?_
      exact hret _ _ _ _ _ dX4_sign_41 hS (hP) (by rw [h31, zc_b])
  · skip
    have h10 : ¬ ((0 ≤ (nI k) ∧ (nI k) < nI (nS σ)) ∧ (0 ≤ (nI d) ∧ (nI d) ≤ 3) ∧ (0 ≤ (nI p) ∧ (nI p) ≤ 9)) := (z_b0).mp h10
    exact absurd hvp h10
set_option maxHeartbeats 4000000 in
set_option maxRecDepth 100000 in
theorem kX4_meaning_inv (l : Launch) (G : zG) (ad : Nat → Nat → Nat) (σ : Nat → Nat) (T : Nat → Nat → Nat) (o n : Nat) (f : Nat → Int32) (x : Nat → Nat) (len : Nat) {N : Nat} (x1 : Int32) (x2 : Int32) (hO : Ok N σ) (ho : o < 5) (hn : n ≤ 4) (hv : ¬ ((0 ≤ x1 ∧ x1 < nI (nS σ)) ∧ (nI 0 ≤ x2 ∧ x2 ≤ nI 9))) (hd : va_D (fun _ => True) (wX G ad σ T o n f x len)) : Met l yX4_meaning wsX4_meaning (zRm 2 44) (zPc G [.ref (ad 0 0), .int x1, .int x2] (va_P G.1 vwCl (wX G ad σ T o n f x len))) (zQ (zA (wX G ad σ T o n f x len)) (some (.int ((-1)))) (va_P G.1 vwCl (wX G ad σ T o n f x len))) 0 0 (zA (wX G ad σ T o n f x len)) := by
  refine zmkWi (w := (wX G ad σ T o n f x len)) hd (cc := cX4_meaning) (maxL := 3) (by decide) rfl (Nat.le_of_ble_eq_true rfl) ?_
  intro pr en st mi ar bl me cd ls Q hx hb hml hown hts hG hP hl hD hS hret
  have hown : st.vm.findClass RX4 = some mi.cls := hown
  have hl : lv_has ls 3 [(0, .ref (ad 0 0)), (1, .int x1), (2, .int x2)] := hl
  have hP : va_P G.1 vwCl (wX G ad σ T o n f x len) st.heap := hP
  have hD : va_D (zA (wX G ad σ T o n f x len)) (wX G ad σ T o n f x len) := hD
  have hinX4 : ∀ w ∈ wsX40, w ∈ wsX4_meaning := by decide +kernel
  have hf10 := hts (.fieldLink RX4 10 "MapSheets" "now" "LMapSheets$Atlas;") (by decide +kernel)
  have hc := hO.c
  have hs := hO.lS
  have hr := hO.lR
  have hne := hO.lE
  refine lv_aload_n hx hb dX4_meaning_0 rfl (lv_at hl 0 rfl) ?_
  refine va_get (D := G.1) (ci := 4) (v := .ref (ad 1 0)) (C := RX4) (T := TX4) (N := 4) hx hb hts hinX4 hown hG.1 hP 0 rfl rfl 0 (by decide) hf10 (fun _ h9 => h9) rfl dX4_meaning_1 ?_
  refine lv_iload_n hx hb dX4_meaning_4 rfl (lv_at hl 1 rfl) ?_
  refine zrdV (As := [.int x1]) ⟨hx, hb, hml, hown, hts⟩ (kX0_hasSheet l G (ad 1) σ x1) (cwV 1 hts gX4_meaning_X0_hasSheet rfl rfl rfl (by decide +kernel) ⟨Nat.le_of_ble_eq_true rfl, Nat.le_of_ble_eq_true rfl⟩) hG (va_recv (q0 := 0) (ci := 0) hG.1 (wX_pA hP) rfl rfl) ((wX_pA hP)) rfl rfl hl.1 dX4_meaning_5 (Nat.le_of_ble_eq_true rfl) ⟨Nat.le_of_ble_eq_true rfl, Nat.le_of_ble_eq_true rfl⟩ ?_
  refine lv_if_eq (tgt := 18) hx hb dX4_meaning_8 (by decide) (fun h8 => ?_) (fun h8 => ?_)
  · skip
    have h8 : ¬ (0 ≤ x1 ∧ x1 < nI (nS σ)) := (z_b0).mp h8
    refine lv_iconst (v := (-1)) hx hb dX4_meaning_18 (by decide) ?_
    exact hret _ _ _ _ _ dX4_meaning_19 hS (hP) (rfl)
  · skip
    have h8 : ¬ (¬ (0 ≤ x1 ∧ x1 < nI (nS σ))) := fun q => h8 ((z_b0).mpr q)
    have h8 : 0 ≤ x1 ∧ x1 < nI (nS σ) := Decidable.of_not_not h8
    refine lv_iload_n hx hb dX4_meaning_11 rfl (lv_at hl 2 rfl) ?_
    refine zrdS (As := [.int x2]) ⟨hx, hb, hml, hown, hts⟩ (kX4_isDigit l G  x2) (va_cwS 1 hts gX4_meaning_X4_isDigit rfl rfl rfl (by decide +kernel) ⟨Nat.le_of_ble_eq_true rfl, Nat.le_of_ble_eq_true rfl⟩) hG (trivial) rfl rfl hl.1 dX4_meaning_12 (Nat.le_of_ble_eq_true rfl) ⟨Nat.le_of_ble_eq_true rfl, Nat.le_of_ble_eq_true rfl⟩ ?_
    refine lv_if_ne (tgt := 20) hx hb dX4_meaning_15 (by decide) (fun h15 => ?_) (fun h15 => ?_)
    · skip
      have h15 : ¬ (¬ (nI 0 ≤ x2 ∧ x2 ≤ nI 9)) := fun q => h15 ((z_b0).mpr q)
      have h15 : nI 0 ≤ x2 ∧ x2 ≤ nI 9 := Decidable.of_not_not h15
      exact absurd ⟨h8, h15⟩ hv
    · skip
      have h15 : ¬ (nI 0 ≤ x2 ∧ x2 ≤ nI 9) := (z_b0).mp h15
      refine lv_iconst (v := (-1)) hx hb dX4_meaning_18 (by decide) ?_
      exact hret _ _ _ _ _ dX4_meaning_19 hS (hP) (rfl)
set_option maxHeartbeats 4000000 in
set_option maxRecDepth 100000 in
theorem kX4_meaning_ok (l : Launch) (G : zG) (ad : Nat → Nat → Nat) (σ : Nat → Nat) (T : Nat → Nat → Nat) (o n : Nat) (f : Nat → Int32) (x : Nat → Nat) (len : Nat) {N : Nat} (k : Nat) (g : Nat) (hO : Ok N σ) (ho : o < 5) (hn : n ≤ 4) (hk : k < nS σ) (hg : g < 10) (hd : va_D (fun _ => True) (wX G ad σ T o n f x len)) : Met l yX4_meaning wsX4_meaning (zRm 2 44) (zPc G [.ref (ad 0 0), .int (nI k), .int (nI g)] (va_P G.1 vwCl (wX G ad σ T o n f x len))) (zQ (zA (wX G ad σ T o n f x len)) (some (.int (nI (mng σ k g)))) (va_P G.1 vwCl (wX G ad σ T o n f x len))) 0 0 (zA (wX G ad σ T o n f x len)) := by
  refine zmkWi (w := (wX G ad σ T o n f x len)) hd (cc := cX4_meaning) (maxL := 3) (by decide) rfl (Nat.le_of_ble_eq_true rfl) ?_
  intro pr en st mi ar bl me cd ls Q hx hb hml hown hts hG hP hl hD hS hret
  have hown : st.vm.findClass RX4 = some mi.cls := hown
  have hl : lv_has ls 3 [(0, .ref (ad 0 0)), (1, .int (nI k)), (2, .int (nI g))] := hl
  have hP : va_P G.1 vwCl (wX G ad σ T o n f x len) st.heap := hP
  have hD : va_D (zA (wX G ad σ T o n f x len)) (wX G ad σ T o n f x len) := hD
  have hinX4 : ∀ w ∈ wsX40, w ∈ wsX4_meaning := by decide +kernel
  have hf10 := hts (.fieldLink RX4 10 "MapSheets" "now" "LMapSheets$Atlas;") (by decide +kernel)
  have hc := hO.c
  have hs := hO.lS
  have hr := hO.lR
  have hne := hO.lE
  have hvs : 0 ≤ nI k ∧ nI k < nI (nS σ) := z_in hk (by omega)
  have hvg : nI 0 ≤ nI g ∧ nI g ≤ nI 9 := z_lem (by omega) (by omega)
  refine lv_aload_n hx hb dX4_meaning_0 rfl (lv_at hl 0 rfl) ?_
  refine va_get (D := G.1) (ci := 4) (v := .ref (ad 1 0)) (C := RX4) (T := TX4) (N := 4) hx hb hts hinX4 hown hG.1 hP 0 rfl rfl 0 (by decide) hf10 (fun _ h9 => h9) rfl dX4_meaning_1 ?_
  refine lv_iload_n hx hb dX4_meaning_4 rfl (lv_at hl 1 rfl) ?_
  refine zrdV (As := [.int (nI k)]) ⟨hx, hb, hml, hown, hts⟩ (kX0_hasSheet l G (ad 1) σ (nI k)) (cwV 1 hts gX4_meaning_X0_hasSheet rfl rfl rfl (by decide +kernel) ⟨Nat.le_of_ble_eq_true rfl, Nat.le_of_ble_eq_true rfl⟩) hG (va_recv (q0 := 0) (ci := 0) hG.1 (wX_pA hP) rfl rfl) ((wX_pA hP)) rfl rfl hl.1 dX4_meaning_5 (Nat.le_of_ble_eq_true rfl) ⟨Nat.le_of_ble_eq_true rfl, Nat.le_of_ble_eq_true rfl⟩ ?_
  refine lv_if_eq (tgt := 18) hx hb dX4_meaning_8 (by decide) (fun h8 => ?_) (fun h8 => ?_)
  · skip
    have h8 : ¬ (0 ≤ (nI k) ∧ (nI k) < nI (nS σ)) := (z_b0).mp h8
    exact absurd hvs h8
  · skip
    have h8 : ¬ (¬ (0 ≤ (nI k) ∧ (nI k) < nI (nS σ))) := fun q => h8 ((z_b0).mpr q)
    have h8 : 0 ≤ (nI k) ∧ (nI k) < nI (nS σ) := Decidable.of_not_not h8
    refine lv_iload_n hx hb dX4_meaning_11 rfl (lv_at hl 2 rfl) ?_
    refine zrdS (As := [.int (nI g)]) ⟨hx, hb, hml, hown, hts⟩ (kX4_isDigit l G  (nI g)) (va_cwS 1 hts gX4_meaning_X4_isDigit rfl rfl rfl (by decide +kernel) ⟨Nat.le_of_ble_eq_true rfl, Nat.le_of_ble_eq_true rfl⟩) hG (trivial) rfl rfl hl.1 dX4_meaning_12 (Nat.le_of_ble_eq_true rfl) ⟨Nat.le_of_ble_eq_true rfl, Nat.le_of_ble_eq_true rfl⟩ ?_
    refine lv_if_ne (tgt := 20) hx hb dX4_meaning_15 (by decide) (fun h15 => ?_) (fun h15 => ?_)
    · skip
      have h15 : ¬ (¬ (nI 0 ≤ (nI g) ∧ (nI g) ≤ nI 9)) := fun q => h15 ((z_b0).mpr q)
      have h15 : nI 0 ≤ (nI g) ∧ (nI g) ≤ nI 9 := Decidable.of_not_not h15
      refine lv_aload_n hx hb dX4_meaning_20 rfl (lv_at hl 0 rfl) ?_
      refine va_get (D := G.1) (ci := 4) (v := .ref (ad 1 0)) (C := RX4) (T := TX4) (N := 4) hx hb hts hinX4 hown hG.1 hP 0 rfl rfl 0 (by decide) hf10 (fun _ h9 => h9) rfl dX4_meaning_21 ?_
      refine lv_iload_n hx hb dX4_meaning_24 rfl (lv_at hl 1 rfl) ?_
      refine lv_iload_n hx hb dX4_meaning_25 rfl (lv_at hl 2 rfl) ?_
      refine zrdV (As := [.int (nI k), .int (nI g)]) ⟨hx, hb, hml, hown, hts⟩ (kX0_meaningOf l G (ad 1) σ k g (by omega) (by omega)) (cwV 2 hts gX4_meaning_X0_meaningOf rfl rfl rfl (by decide +kernel) ⟨Nat.le_of_ble_eq_true rfl, Nat.le_of_ble_eq_true rfl⟩) hG (va_recv (q0 := 0) (ci := 0) hG.1 (wX_pA hP) rfl rfl) ((wX_pA hP)) rfl rfl hl.1 dX4_meaning_26 (Nat.le_of_ble_eq_true rfl) ⟨Nat.le_of_ble_eq_true rfl, Nat.le_of_ble_eq_true rfl⟩ ?_
      exact hret _ _ _ _ _ dX4_meaning_29 hS (hP) (congrArg nI (rfl))
    · skip
      have h15 : ¬ (nI 0 ≤ (nI g) ∧ (nI g) ≤ nI 9) := (z_b0).mp h15
      exact absurd hvg h15
set_option maxHeartbeats 4000000 in
set_option maxRecDepth 100000 in
theorem kX4_edgeAt_inv (l : Launch) (G : zG) (ad : Nat → Nat → Nat) (σ : Nat → Nat) (T : Nat → Nat → Nat) (o n : Nat) (f : Nat → Int32) (x : Nat → Nat) (len : Nat) {N : Nat} (x1 : Int32) (x2 : Int32) (hO : Ok N σ) (ho : o < 5) (hn : n ≤ 4) (hv : ¬ ((0 ≤ x1 ∧ x1 < nI (nS σ)) ∧ (nI 0 ≤ x2 ∧ x2 ≤ nI 3))) (hd : va_D (fun _ => True) (wX G ad σ T o n f x len)) : Met l yX4_edgeAt wsX4_edgeAt (zRm 2 47) (zPc G [.ref (ad 0 0), .int x1, .int x2] (va_P G.1 vwCl (wX G ad σ T o n f x len))) (zQ (zA (wX G ad σ T o n f x len)) (some (.int ((-1)))) (va_P G.1 vwCl (wX G ad σ T o n f x len))) 0 0 (zA (wX G ad σ T o n f x len)) := by
  refine zmkWi (w := (wX G ad σ T o n f x len)) hd (cc := cX4_edgeAt) (maxL := 3) (by decide) rfl (Nat.le_of_ble_eq_true rfl) ?_
  intro pr en st mi ar bl me cd ls Q hx hb hml hown hts hG hP hl hD hS hret
  have hown : st.vm.findClass RX4 = some mi.cls := hown
  have hl : lv_has ls 3 [(0, .ref (ad 0 0)), (1, .int x1), (2, .int x2)] := hl
  have hP : va_P G.1 vwCl (wX G ad σ T o n f x len) st.heap := hP
  have hD : va_D (zA (wX G ad σ T o n f x len)) (wX G ad σ T o n f x len) := hD
  have hinX4 : ∀ w ∈ wsX40, w ∈ wsX4_edgeAt := by decide +kernel
  have hf10 := hts (.fieldLink RX4 10 "MapSheets" "now" "LMapSheets$Atlas;") (by decide +kernel)
  have hc := hO.c
  have hs := hO.lS
  have hr := hO.lR
  have hne := hO.lE
  refine lv_aload_n hx hb dX4_edgeAt_0 rfl (lv_at hl 0 rfl) ?_
  refine va_get (D := G.1) (ci := 4) (v := .ref (ad 1 0)) (C := RX4) (T := TX4) (N := 4) hx hb hts hinX4 hown hG.1 hP 0 rfl rfl 0 (by decide) hf10 (fun _ h9 => h9) rfl dX4_edgeAt_1 ?_
  refine lv_iload_n hx hb dX4_edgeAt_4 rfl (lv_at hl 1 rfl) ?_
  refine zrdV (As := [.int x1]) ⟨hx, hb, hml, hown, hts⟩ (kX0_hasSheet l G (ad 1) σ x1) (cwV 1 hts gX4_edgeAt_X0_hasSheet rfl rfl rfl (by decide +kernel) ⟨Nat.le_of_ble_eq_true rfl, Nat.le_of_ble_eq_true rfl⟩) hG (va_recv (q0 := 0) (ci := 0) hG.1 (wX_pA hP) rfl rfl) ((wX_pA hP)) rfl rfl hl.1 dX4_edgeAt_5 (Nat.le_of_ble_eq_true rfl) ⟨Nat.le_of_ble_eq_true rfl, Nat.le_of_ble_eq_true rfl⟩ ?_
  refine lv_if_eq (tgt := 20) hx hb dX4_edgeAt_8 (by decide) (fun h8 => ?_) (fun h8 => ?_)
  · skip
    have h8 : ¬ (0 ≤ x1 ∧ x1 < nI (nS σ)) := (z_b0).mp h8
    refine lv_iconst (v := (-1)) hx hb dX4_edgeAt_20 (by decide) ?_
    exact hret _ _ _ _ _ dX4_edgeAt_21 hS (hP) (rfl)
  · skip
    have h8 : ¬ (¬ (0 ≤ x1 ∧ x1 < nI (nS σ))) := fun q => h8 ((z_b0).mpr q)
    have h8 : 0 ≤ x1 ∧ x1 < nI (nS σ) := Decidable.of_not_not h8
    refine lv_iload_n hx hb dX4_edgeAt_11 rfl (lv_at hl 2 rfl) ?_
    refine lv_iconst (v := nI 0) hx hb dX4_edgeAt_12 (by decide) ?_
    refine lv_iconst (v := nI 3) hx hb dX4_edgeAt_13 (by decide) ?_
    refine zrdS (As := [.int x2, .int (nI 0), .int (nI 3)]) ⟨hx, hb, hml, hown, hts⟩ (kX4_isWithin l G  x2 (nI 0) (nI 3)) (va_cwS 3 hts gX4_edgeAt_X4_isWithin rfl rfl rfl (by decide +kernel) ⟨Nat.le_of_ble_eq_true rfl, Nat.le_of_ble_eq_true rfl⟩) hG (trivial) rfl rfl hl.1 dX4_edgeAt_14 (Nat.le_of_ble_eq_true rfl) ⟨Nat.le_of_ble_eq_true rfl, Nat.le_of_ble_eq_true rfl⟩ ?_
    refine lv_if_ne (tgt := 22) hx hb dX4_edgeAt_17 (by decide) (fun h17 => ?_) (fun h17 => ?_)
    · skip
      have h17 : ¬ (¬ ((nI 0) ≤ x2 ∧ x2 ≤ (nI 3))) := fun q => h17 ((z_b0).mpr q)
      have h17 : (nI 0) ≤ x2 ∧ x2 ≤ (nI 3) := Decidable.of_not_not h17
      exact absurd ⟨h8, h17⟩ hv
    · skip
      have h17 : ¬ ((nI 0) ≤ x2 ∧ x2 ≤ (nI 3)) := (z_b0).mp h17
      refine lv_iconst (v := (-1)) hx hb dX4_edgeAt_20 (by decide) ?_
      exact hret _ _ _ _ _ dX4_edgeAt_21 hS (hP) (rfl)
set_option maxHeartbeats 4000000 in
set_option maxRecDepth 100000 in
theorem kX4_edgeAt_ok (l : Launch) (G : zG) (ad : Nat → Nat → Nat) (σ : Nat → Nat) (T : Nat → Nat → Nat) (o n : Nat) (f : Nat → Int32) (x : Nat → Nat) (len : Nat) {N : Nat} (k : Nat) (d : Nat) (hO : Ok N σ) (ho : o < 5) (hn : n ≤ 4) (hk : k < nS σ) (hd4 : d < 4) (hd : va_D (fun _ => True) (wX G ad σ T o n f x len)) : Met l yX4_edgeAt wsX4_edgeAt (zRm 2 47) (zPc G [.ref (ad 0 0), .int (nI k), .int (nI d)] (va_P G.1 vwCl (wX G ad σ T o n f x len))) (zQ (zA (wX G ad σ T o n f x len)) (some (.int (zc 60 (eO σ k d)))) (va_P G.1 vwCl (wX G ad σ T o n f x len))) 0 0 (zA (wX G ad σ T o n f x len)) := by
  refine zmkWi (w := (wX G ad σ T o n f x len)) hd (cc := cX4_edgeAt) (maxL := 3) (by decide) rfl (Nat.le_of_ble_eq_true rfl) ?_
  intro pr en st mi ar bl me cd ls Q hx hb hml hown hts hG hP hl hD hS hret
  have hown : st.vm.findClass RX4 = some mi.cls := hown
  have hl : lv_has ls 3 [(0, .ref (ad 0 0)), (1, .int (nI k)), (2, .int (nI d))] := hl
  have hP : va_P G.1 vwCl (wX G ad σ T o n f x len) st.heap := hP
  have hD : va_D (zA (wX G ad σ T o n f x len)) (wX G ad σ T o n f x len) := hD
  have hinX4 : ∀ w ∈ wsX40, w ∈ wsX4_edgeAt := by decide +kernel
  have hf10 := hts (.fieldLink RX4 10 "MapSheets" "now" "LMapSheets$Atlas;") (by decide +kernel)
  have hc := hO.c
  have hs := hO.lS
  have hr := hO.lR
  have hne := hO.lE
  have hvs : 0 ≤ nI k ∧ nI k < nI (nS σ) := z_in hk (by omega)
  have hvd : nI 0 ≤ nI d ∧ nI d ≤ nI 3 := z_lem (by omega) (by omega)
  refine lv_aload_n hx hb dX4_edgeAt_0 rfl (lv_at hl 0 rfl) ?_
  refine va_get (D := G.1) (ci := 4) (v := .ref (ad 1 0)) (C := RX4) (T := TX4) (N := 4) hx hb hts hinX4 hown hG.1 hP 0 rfl rfl 0 (by decide) hf10 (fun _ h9 => h9) rfl dX4_edgeAt_1 ?_
  refine lv_iload_n hx hb dX4_edgeAt_4 rfl (lv_at hl 1 rfl) ?_
  refine zrdV (As := [.int (nI k)]) ⟨hx, hb, hml, hown, hts⟩ (kX0_hasSheet l G (ad 1) σ (nI k)) (cwV 1 hts gX4_edgeAt_X0_hasSheet rfl rfl rfl (by decide +kernel) ⟨Nat.le_of_ble_eq_true rfl, Nat.le_of_ble_eq_true rfl⟩) hG (va_recv (q0 := 0) (ci := 0) hG.1 (wX_pA hP) rfl rfl) ((wX_pA hP)) rfl rfl hl.1 dX4_edgeAt_5 (Nat.le_of_ble_eq_true rfl) ⟨Nat.le_of_ble_eq_true rfl, Nat.le_of_ble_eq_true rfl⟩ ?_
  refine lv_if_eq (tgt := 20) hx hb dX4_edgeAt_8 (by decide) (fun h8 => ?_) (fun h8 => ?_)
  · skip
    have h8 : ¬ (0 ≤ (nI k) ∧ (nI k) < nI (nS σ)) := (z_b0).mp h8
    exact absurd hvs h8
  · skip
    have h8 : ¬ (¬ (0 ≤ (nI k) ∧ (nI k) < nI (nS σ))) := fun q => h8 ((z_b0).mpr q)
    have h8 : 0 ≤ (nI k) ∧ (nI k) < nI (nS σ) := Decidable.of_not_not h8
    refine lv_iload_n hx hb dX4_edgeAt_11 rfl (lv_at hl 2 rfl) ?_
    refine lv_iconst (v := nI 0) hx hb dX4_edgeAt_12 (by decide) ?_
    refine lv_iconst (v := nI 3) hx hb dX4_edgeAt_13 (by decide) ?_
    refine zrdS (As := [.int (nI d), .int (nI 0), .int (nI 3)]) ⟨hx, hb, hml, hown, hts⟩ (kX4_isWithin l G  (nI d) (nI 0) (nI 3)) (va_cwS 3 hts gX4_edgeAt_X4_isWithin rfl rfl rfl (by decide +kernel) ⟨Nat.le_of_ble_eq_true rfl, Nat.le_of_ble_eq_true rfl⟩) hG (trivial) rfl rfl hl.1 dX4_edgeAt_14 (Nat.le_of_ble_eq_true rfl) ⟨Nat.le_of_ble_eq_true rfl, Nat.le_of_ble_eq_true rfl⟩ ?_
    refine lv_if_ne (tgt := 22) hx hb dX4_edgeAt_17 (by decide) (fun h17 => ?_) (fun h17 => ?_)
    · skip
      have h17 : ¬ (¬ ((nI 0) ≤ (nI d) ∧ (nI d) ≤ (nI 3))) := fun q => h17 ((z_b0).mpr q)
      have h17 : (nI 0) ≤ (nI d) ∧ (nI d) ≤ (nI 3) := Decidable.of_not_not h17
      refine lv_aload_n hx hb dX4_edgeAt_22 rfl (lv_at hl 0 rfl) ?_
      refine va_get (D := G.1) (ci := 4) (v := .ref (ad 1 0)) (C := RX4) (T := TX4) (N := 4) hx hb hts hinX4 hown hG.1 hP 0 rfl rfl 0 (by decide) hf10 (fun _ h9 => h9) rfl dX4_edgeAt_23 ?_
      refine lv_iload_n hx hb dX4_edgeAt_26 rfl (lv_at hl 1 rfl) ?_
      refine lv_iload_n hx hb dX4_edgeAt_27 rfl (lv_at hl 2 rfl) ?_
      refine zrdV (As := [.int (nI k), .int (nI d)]) ⟨hx, hb, hml, hown, hts⟩ (kX0_edgeOf l G (ad 1) σ k d (hO) (by omega) (by omega)) (cwV 2 hts gX4_edgeAt_X0_edgeOf rfl rfl rfl (by decide +kernel) ⟨Nat.le_of_ble_eq_true rfl, Nat.le_of_ble_eq_true rfl⟩) hG (va_recv (q0 := 0) (ci := 0) hG.1 (wX_pA hP) rfl rfl) ((wX_pA hP)) rfl rfl hl.1 dX4_edgeAt_28 (Nat.le_of_ble_eq_true rfl) ⟨Nat.le_of_ble_eq_true rfl, Nat.le_of_ble_eq_true rfl⟩ ?_
      have hf28_0 := hO.lO2 (show k < nS σ by omega) (show d < 4 by omega)
      exact hret _ _ _ _ _ dX4_edgeAt_31 hS (hP) (rfl)
    · skip
      have h17 : ¬ ((nI 0) ≤ (nI d) ∧ (nI d) ≤ (nI 3)) := (z_b0).mp h17
      exact absurd hvd h17
set_option maxHeartbeats 4000000 in
set_option maxRecDepth 100000 in
theorem kX4_agree_inv (l : Launch) (G : zG) (ad : Nat → Nat → Nat) (σ : Nat → Nat) (T : Nat → Nat → Nat) (o n : Nat) (f : Nat → Int32) (x : Nat → Nat) (len : Nat) {N : Nat} (x1 : Int32) (hO : Ok N σ) (ho : o < 5) (hn : n ≤ 4) (hv : ¬ (0 ≤ x1 ∧ x1 < nI (nE σ))) (hd : va_D (fun _ => True) (wX G ad σ T o n f x len)) : Met l yX4_agree wsX4_agree (zRm 4 104) (zPc G [.ref (ad 0 0), .int x1] (va_P G.1 vwCl (wX G ad σ T o n f x len))) (zQ (zA (wX G ad σ T o n f x len)) (some (.int ((-1)))) (va_P G.1 vwCl (wX G ad σ T o n f x len))) 0 0 (zA (wX G ad σ T o n f x len)) := by
  refine zmkWi (w := (wX G ad σ T o n f x len)) hd (cc := cX4_agree) (maxL := 3) (by decide) rfl (Nat.le_of_ble_eq_true rfl) ?_
  intro pr en st mi ar bl me cd ls Q hx hb hml hown hts hG hP hl hD hS hret
  have hown : st.vm.findClass RX4 = some mi.cls := hown
  have hl : lv_has ls 3 [(0, .ref (ad 0 0)), (1, .int x1)] := hl
  have hP : va_P G.1 vwCl (wX G ad σ T o n f x len) st.heap := hP
  have hD : va_D (zA (wX G ad σ T o n f x len)) (wX G ad σ T o n f x len) := hD
  have hinX4 : ∀ w ∈ wsX40, w ∈ wsX4_agree := by decide +kernel
  have hf10 := hts (.fieldLink RX4 10 "MapSheets" "now" "LMapSheets$Atlas;") (by decide +kernel)
  have hc := hO.c
  have hs := hO.lS
  have hr := hO.lR
  have hne := hO.lE
  refine lv_aload_n hx hb dX4_agree_0 rfl (lv_at hl 0 rfl) ?_
  refine va_get (D := G.1) (ci := 4) (v := .ref (ad 1 0)) (C := RX4) (T := TX4) (N := 4) hx hb hts hinX4 hown hG.1 hP 0 rfl rfl 0 (by decide) hf10 (fun _ h9 => h9) rfl dX4_agree_1 ?_
  refine lv_iload_n hx hb dX4_agree_4 rfl (lv_at hl 1 rfl) ?_
  refine zrdV (As := [.int x1]) ⟨hx, hb, hml, hown, hts⟩ (kX0_hasEdge l G (ad 1) σ x1 (hO)) (cwV 1 hts gX4_agree_X0_hasEdge rfl rfl rfl (by decide +kernel) ⟨Nat.le_of_ble_eq_true rfl, Nat.le_of_ble_eq_true rfl⟩) hG (va_recv (q0 := 0) (ci := 0) hG.1 (wX_pA hP) rfl rfl) ((wX_pA hP)) rfl rfl hl.1 dX4_agree_5 (Nat.le_of_ble_eq_true rfl) ⟨Nat.le_of_ble_eq_true rfl, Nat.le_of_ble_eq_true rfl⟩ ?_
  refine lv_if_ne (tgt := 13) hx hb dX4_agree_8 (by decide) (fun h8 => ?_) (fun h8 => ?_)
  · skip
    have h8 : ¬ (¬ (0 ≤ x1 ∧ x1 < nI (nE σ))) := fun q => h8 ((z_b0).mpr q)
    have h8 : 0 ≤ x1 ∧ x1 < nI (nE σ) := Decidable.of_not_not h8
    exact absurd h8 hv
  · skip
    have h8 : ¬ (0 ≤ x1 ∧ x1 < nI (nE σ)) := (z_b0).mp h8
    refine lv_iconst (v := (-1)) hx hb dX4_agree_11 (by decide) ?_
    exact hret _ _ _ _ _ dX4_agree_12 hS (hP) (rfl)
set_option maxHeartbeats 4000000 in
set_option maxRecDepth 100000 in
theorem kX4_agree_no (l : Launch) (G : zG) (ad : Nat → Nat → Nat) (σ : Nat → Nat) (T : Nat → Nat → Nat) (o n : Nat) (f : Nat → Int32) (x : Nat → Nat) (len : Nat) {N : Nat} (e : Nat) (hO : Ok N σ) (ho : o < 5) (hn : n ≤ 4) (he : e < nE σ) (hq : 0 < qrl σ e) (hd : va_D (fun _ => True) (wX G ad σ T o n f x len)) : Met l yX4_agree wsX4_agree (zRm 4 104) (zPc G [.ref (ad 0 0), .int (nI e)] (va_P G.1 vwCl (wX G ad σ T o n f x len))) (zQ (zA (wX G ad σ T o n f x len)) (some (.int ((-2)))) (va_P G.1 vwCl (wX G ad σ T o n f x len))) 0 0 (zA (wX G ad σ T o n f x len)) := by
  refine zmkWi (w := (wX G ad σ T o n f x len)) hd (cc := cX4_agree) (maxL := 3) (by decide) rfl (Nat.le_of_ble_eq_true rfl) ?_
  intro pr en st mi ar bl me cd ls Q hx hb hml hown hts hG hP hl hD hS hret
  have hown : st.vm.findClass RX4 = some mi.cls := hown
  have hl : lv_has ls 3 [(0, .ref (ad 0 0)), (1, .int (nI e))] := hl
  have hP : va_P G.1 vwCl (wX G ad σ T o n f x len) st.heap := hP
  have hD : va_D (zA (wX G ad σ T o n f x len)) (wX G ad σ T o n f x len) := hD
  have hinX4 : ∀ w ∈ wsX40, w ∈ wsX4_agree := by decide +kernel
  have hf10 := hts (.fieldLink RX4 10 "MapSheets" "now" "LMapSheets$Atlas;") (by decide +kernel)
  have hc := hO.c
  have hs := hO.lS
  have hr := hO.lR
  have hne := hO.lE
  have hve : 0 ≤ nI e ∧ nI e < nI (nE σ) := z_in he (by omega)
  refine lv_aload_n hx hb dX4_agree_0 rfl (lv_at hl 0 rfl) ?_
  refine va_get (D := G.1) (ci := 4) (v := .ref (ad 1 0)) (C := RX4) (T := TX4) (N := 4) hx hb hts hinX4 hown hG.1 hP 0 rfl rfl 0 (by decide) hf10 (fun _ h9 => h9) rfl dX4_agree_1 ?_
  refine lv_iload_n hx hb dX4_agree_4 rfl (lv_at hl 1 rfl) ?_
  refine zrdV (As := [.int (nI e)]) ⟨hx, hb, hml, hown, hts⟩ (kX0_hasEdge l G (ad 1) σ (nI e) (hO)) (cwV 1 hts gX4_agree_X0_hasEdge rfl rfl rfl (by decide +kernel) ⟨Nat.le_of_ble_eq_true rfl, Nat.le_of_ble_eq_true rfl⟩) hG (va_recv (q0 := 0) (ci := 0) hG.1 (wX_pA hP) rfl rfl) ((wX_pA hP)) rfl rfl hl.1 dX4_agree_5 (Nat.le_of_ble_eq_true rfl) ⟨Nat.le_of_ble_eq_true rfl, Nat.le_of_ble_eq_true rfl⟩ ?_
  refine lv_if_ne (tgt := 13) hx hb dX4_agree_8 (by decide) (fun h8 => ?_) (fun h8 => ?_)
  · skip
    have h8 : ¬ (¬ (0 ≤ (nI e) ∧ (nI e) < nI (nE σ))) := fun q => h8 ((z_b0).mpr q)
    have h8 : 0 ≤ (nI e) ∧ (nI e) < nI (nE σ) := Decidable.of_not_not h8
    refine lv_aload_n hx hb dX4_agree_13 rfl (lv_at hl 0 rfl) ?_
    refine va_get (D := G.1) (ci := 4) (v := .ref (ad 1 0)) (C := RX4) (T := TX4) (N := 4) hx hb hts hinX4 hown hG.1 hP 0 rfl rfl 0 (by decide) hf10 (fun _ h9 => h9) rfl dX4_agree_14 ?_
    refine lv_iload_n hx hb dX4_agree_17 rfl (lv_at hl 1 rfl) ?_
    refine zrdV (As := [.int (nI e)]) ⟨hx, hb, hml, hown, hts⟩ (kX0_quarrelsOf l G (ad 1) σ e (hO) (by omega)) (cwV 1 hts gX4_agree_X0_quarrelsOf rfl rfl rfl (by decide +kernel) ⟨Nat.le_of_ble_eq_true rfl, Nat.le_of_ble_eq_true rfl⟩) hG (va_recv (q0 := 0) (ci := 0) hG.1 (wX_pA hP) rfl rfl) ((wX_pA hP)) rfl rfl hl.1 dX4_agree_18 (Nat.le_of_ble_eq_true rfl) ⟨Nat.le_of_ble_eq_true rfl, Nat.le_of_ble_eq_true rfl⟩ ?_
    have hf18_0 := qrl_le σ (e)
    refine lv_if_le (tgt := 27) hx hb dX4_agree_21 (by decide) (fun h21 => ?_) (fun h21 => ?_)
    · skip
      have h21 : (qrl σ e) = 0 := (z_le0 (by omega)).mp h21
      exfalso; omega
    · skip
      have h21 : ¬ ((qrl σ e) = 0) := fun q => h21 ((z_le0 (by omega)).mpr q)
      have h21 : 0 < (qrl σ e) := Nat.pos_of_ne_zero h21
      refine lv_bipush (v := (-2)) hx hb dX4_agree_24 (by decide) ?_
      exact hret _ _ _ _ _ dX4_agree_26 hS (hP) (rfl)
  · skip
    have h8 : ¬ (0 ≤ (nI e) ∧ (nI e) < nI (nE σ)) := (z_b0).mp h8
    exact absurd hve h8
set_option maxHeartbeats 4000000 in
set_option maxRecDepth 100000 in
theorem kX4_agree_ok (l : Launch) (G : zG) (ad : Nat → Nat → Nat) (σ : Nat → Nat) (T : Nat → Nat → Nat) (o n : Nat) (f : Nat → Int32) (x : Nat → Nat) (len : Nat) {N : Nat} (e : Nat) (hO : Ok N σ) (ho : o < 5) (hn : n ≤ 4) (he : e < nE σ) (hq : qrl σ e = 0) (hd : va_D (fun _ => True) (wX G ad σ T o n f x len)) : Met l yX4_agree wsX4_agree (zRm 4 104) (zPc G [.ref (ad 0 0), .int (nI e)] (va_P G.1 vwCl (wX G ad σ T o n f x len))) (zQ (zA (wX G ad σ T o n f x len)) (some (.int (nI (agn σ e)))) (va_P G.1 vwCl (wX G ad (su σ (4 + e) 1) (upT T ((o + n) % 5) σ) (nO o n) (nN n) f x len))) 0 0 (zA (wX G ad σ T o n f x len)) := by
  refine zmkWi (w := (wX G ad σ T o n f x len)) hd (cc := cX4_agree) (maxL := 3) (by decide) rfl (Nat.le_of_ble_eq_true rfl) ?_
  intro pr en st mi ar bl me cd ls Q hx hb hml hown hts hG hP hl hD hS hret
  have hown : st.vm.findClass RX4 = some mi.cls := hown
  have hl : lv_has ls 3 [(0, .ref (ad 0 0)), (1, .int (nI e))] := hl
  have hP : va_P G.1 vwCl (wX G ad σ T o n f x len) st.heap := hP
  have hD : va_D (zA (wX G ad σ T o n f x len)) (wX G ad σ T o n f x len) := hD
  have hinX4 : ∀ w ∈ wsX40, w ∈ wsX4_agree := by decide +kernel
  have hf10 := hts (.fieldLink RX4 10 "MapSheets" "now" "LMapSheets$Atlas;") (by decide +kernel)
  have hf19 := hts (.fieldLink RX4 19 "MapSheets" "history" "LMapSheets$History;") (by decide +kernel)
  have hc := hO.c
  have hs := hO.lS
  have hr := hO.lR
  have hne := hO.lE
  have hve : 0 ≤ nI e ∧ nI e < nI (nE σ) := z_in he (by omega)
  refine lv_aload_n hx hb dX4_agree_0 rfl (lv_at hl 0 rfl) ?_
  refine va_get (D := G.1) (ci := 4) (v := .ref (ad 1 0)) (C := RX4) (T := TX4) (N := 4) hx hb hts hinX4 hown hG.1 hP 0 rfl rfl 0 (by decide) hf10 (fun _ h9 => h9) rfl dX4_agree_1 ?_
  refine lv_iload_n hx hb dX4_agree_4 rfl (lv_at hl 1 rfl) ?_
  refine zrdV (As := [.int (nI e)]) ⟨hx, hb, hml, hown, hts⟩ (kX0_hasEdge l G (ad 1) σ (nI e) (hO)) (cwV 1 hts gX4_agree_X0_hasEdge rfl rfl rfl (by decide +kernel) ⟨Nat.le_of_ble_eq_true rfl, Nat.le_of_ble_eq_true rfl⟩) hG (va_recv (q0 := 0) (ci := 0) hG.1 (wX_pA hP) rfl rfl) ((wX_pA hP)) rfl rfl hl.1 dX4_agree_5 (Nat.le_of_ble_eq_true rfl) ⟨Nat.le_of_ble_eq_true rfl, Nat.le_of_ble_eq_true rfl⟩ ?_
  refine lv_if_ne (tgt := 13) hx hb dX4_agree_8 (by decide) (fun h8 => ?_) (fun h8 => ?_)
  · skip
    have h8 : ¬ (¬ (0 ≤ (nI e) ∧ (nI e) < nI (nE σ))) := fun q => h8 ((z_b0).mpr q)
    have h8 : 0 ≤ (nI e) ∧ (nI e) < nI (nE σ) := Decidable.of_not_not h8
    refine lv_aload_n hx hb dX4_agree_13 rfl (lv_at hl 0 rfl) ?_
    refine va_get (D := G.1) (ci := 4) (v := .ref (ad 1 0)) (C := RX4) (T := TX4) (N := 4) hx hb hts hinX4 hown hG.1 hP 0 rfl rfl 0 (by decide) hf10 (fun _ h9 => h9) rfl dX4_agree_14 ?_
    refine lv_iload_n hx hb dX4_agree_17 rfl (lv_at hl 1 rfl) ?_
    refine zrdV (As := [.int (nI e)]) ⟨hx, hb, hml, hown, hts⟩ (kX0_quarrelsOf l G (ad 1) σ e (hO) (by omega)) (cwV 1 hts gX4_agree_X0_quarrelsOf rfl rfl rfl (by decide +kernel) ⟨Nat.le_of_ble_eq_true rfl, Nat.le_of_ble_eq_true rfl⟩) hG (va_recv (q0 := 0) (ci := 0) hG.1 (wX_pA hP) rfl rfl) ((wX_pA hP)) rfl rfl hl.1 dX4_agree_18 (Nat.le_of_ble_eq_true rfl) ⟨Nat.le_of_ble_eq_true rfl, Nat.le_of_ble_eq_true rfl⟩ ?_
    have hf18_0 := qrl_le σ (e)
    refine lv_if_le (tgt := 27) hx hb dX4_agree_21 (by decide) (fun h21 => ?_) (fun h21 => ?_)
    · skip
      have h21 : (qrl σ e) = 0 := (z_le0 (by omega)).mp h21
      refine lv_aload_n hx hb dX4_agree_27 rfl (lv_at hl 0 rfl) ?_
      refine va_get (D := G.1) (ci := 4) (v := .ref (ad 2 0)) (C := RX4) (T := TX4) (N := 4) hx hb hts hinX4 hown hG.1 hP 0 rfl rfl 1 (by decide) hf19 (fun _ h9 => h9) rfl dX4_agree_28 ?_
      refine lv_aload_n hx hb dX4_agree_31 rfl (lv_at hl 0 rfl) ?_
      refine va_get (D := G.1) (ci := 4) (v := .ref (ad 1 0)) (C := RX4) (T := TX4) (N := 4) hx hb hts hinX4 hown hG.1 hP 0 rfl rfl 0 (by decide) hf10 (fun _ h9 => h9) rfl dX4_agree_32 ?_
      refine zwrEv (G := G) (wc' := (wHo G (ad 2) (aH ad) o n ++ (wTs G (aH ad) (upT T ((o + n) % 5) σ) 5 ++ wA G (ad 1) σ))) (ws' := (wX G ad σ (upT T ((o + n) % 5) σ) o n f x len)) (va_runV (As := [.ref (ad 1 0)]) (rest := []) ⟨hx, hb, hml, hown, hts⟩ (kX2_recordState l G (ad 2) (aH ad) o n T (ad 1) σ (by omega) (by omega) (zD_any (wX_dHA hD))) (cwV 1 hts gX4_agree_X2_recordState rfl rfl rfl (by decide +kernel) ⟨Nat.le_of_ble_eq_true rfl, Nat.le_of_ble_eq_true rfl⟩) (zPreV hG (va_recv (q0 := 0) (ci := 2) hG.1 (wX_pH hP) rfl rfl) (wX_pHA hP)) rfl rfl hl.1 rfl (lv_room (Nat.le_of_ble_eq_true rfl)) dX4_agree_35 ⟨Nat.le_of_ble_eq_true rfl, Nat.le_of_ble_eq_true rfl⟩) (wX_eHA) (wX_eHA) hP hD hS (wHA_map _ _ _ _ _ _ _ _ _ _ _ _) (fun H locs hP hD hS => ?_)
      have hP : va_P G.1 vwCl (wX G ad σ (upT T ((o + n) % 5) σ) o n f x len) H := hP
      have hD : va_D (zA (wX G ad σ T o n f x len)) (wX G ad σ (upT T ((o + n) % 5) σ) o n f x len) := hD
      refine lv_aload_n hx hb dX4_agree_38 rfl (lv_at hl 0 rfl) ?_
      refine va_get (D := G.1) (ci := 4) (v := .ref (ad 1 0)) (C := RX4) (T := TX4) (N := 4) hx hb hts hinX4 hown hG.1 hP 0 rfl rfl 0 (by decide) hf10 (fun _ h9 => h9) rfl dX4_agree_39 ?_
      refine lv_iload_n hx hb dX4_agree_42 rfl (lv_at hl 1 rfl) ?_
      refine lv_iconst (v := nI 1) hx hb dX4_agree_43 (by decide) ?_
      refine zwrE (G := G) (wc' := (wA G (ad 1) (su σ (4 + e) 1))) (ws' := (wX G ad (su σ (4 + e) 1) (upT T ((o + n) % 5) σ) o n f x len)) (va_runV (As := [.int (nI e), .int (nI 1)]) (rest := []) ⟨hx, hb, hml, hown, hts⟩ (kX0_putAgreed l G (ad 1) σ e 1 (by omega) (zD_any (wX_dA hD))) (cwV 2 hts gX4_agree_X0_putAgreed rfl rfl rfl (by decide +kernel) ⟨Nat.le_of_ble_eq_true rfl, Nat.le_of_ble_eq_true rfl⟩) (zPreV hG (va_recv (q0 := 0) (ci := 0) hG.1 (wX_pA hP) rfl rfl) ((wX_pA hP))) rfl rfl hl.1 rfl (lv_room (Nat.le_of_ble_eq_true rfl)) dX4_agree_44 ⟨Nat.le_of_ble_eq_true rfl, Nat.le_of_ble_eq_true rfl⟩) (wX_eA) (wX_eA) hP hD hS rfl (fun H locs hP hD hS => ?_)
      have hP : va_P G.1 vwCl (wX G ad (su σ (4 + e) 1) (upT T ((o + n) % 5) σ) o n f x len) H := hP
      have hD : va_D (zA (wX G ad σ T o n f x len)) (wX G ad (su σ (4 + e) 1) (upT T ((o + n) % 5) σ) o n f x len) := hD
      refine lv_istore_n (lv' := [(2, .int (nI (agn σ e))), (0, .ref (ad 0 0)), (1, .int (nI e))]) hx hb dX4_agree_47 rfl hl (by decide) rfl (fun ls hl => ?_)
      refine lv_aload_n hx hb dX4_agree_48 rfl (lv_at hl 1 rfl) ?_
      refine va_get (D := G.1) (ci := 4) (v := .ref (ad 2 0)) (C := RX4) (T := TX4) (N := 4) hx hb hts hinX4 hown hG.1 hP 0 rfl rfl 1 (by decide) hf19 (fun _ h9 => h9) rfl dX4_agree_49 ?_
      refine zwrEv (G := G) (wc' := (wHo G (ad 2) (aH ad) (nO o n) (nN n))) (ws' := (wX G ad (su σ (4 + e) 1) (upT T ((o + n) % 5) σ) (nO o n) (nN n) f x len)) (va_runV (As := []) (rest := []) ⟨hx, hb, hml, hown, hts⟩ (kX2_keepRecord l G (ad 2) (aH ad) o n (by omega) (by omega) (zD_any (wX_dH hD))) (cwV 0 hts gX4_agree_X2_keepRecord rfl rfl rfl (by decide +kernel) ⟨Nat.le_of_ble_eq_true rfl, Nat.le_of_ble_eq_true rfl⟩) (zPreV hG (va_recv (q0 := 0) (ci := 2) hG.1 (wX_pH hP) rfl rfl) (wX_pH hP)) rfl rfl hl.1 rfl (lv_room (Nat.le_of_ble_eq_true rfl)) dX4_agree_52 ⟨Nat.le_of_ble_eq_true rfl, Nat.le_of_ble_eq_true rfl⟩) (wX_eH) (wX_eH) hP hD hS rfl (fun H locs hP hD hS => ?_)
      have hP : va_P G.1 vwCl (wX G ad (su σ (4 + e) 1) (upT T ((o + n) % 5) σ) (nO o n) (nN n) f x len) H := hP
      have hD : va_D (zA (wX G ad σ T o n f x len)) (wX G ad (su σ (4 + e) 1) (upT T ((o + n) % 5) σ) (nO o n) (nN n) f x len) := hD
      refine lv_iload_n hx hb dX4_agree_55 rfl (lv_at hl 0 rfl) ?_
      exact hret _ _ _ _ _ dX4_agree_56 hS (hP) (congrArg nI (rfl))
    · skip
      have h21 : ¬ ((qrl σ e) = 0) := fun q => h21 ((z_le0 (by omega)).mpr q)
      have h21 : 0 < (qrl σ e) := Nat.pos_of_ne_zero h21
      exfalso; omega
  · skip
    have h8 : ¬ (0 ≤ (nI e) ∧ (nI e) < nI (nE σ)) := (z_b0).mp h8
    exact absurd hve h8
set_option maxHeartbeats 4000000 in
set_option maxRecDepth 100000 in
theorem kX4_release_inv (l : Launch) (G : zG) (ad : Nat → Nat → Nat) (σ : Nat → Nat) (T : Nat → Nat → Nat) (o n : Nat) (f : Nat → Int32) (x : Nat → Nat) (len : Nat) {N : Nat} (x1 : Int32) (hO : Ok N σ) (ho : o < 5) (hn : n ≤ 4) (hv : ¬ (0 ≤ x1 ∧ x1 < nI (nE σ))) (hd : va_D (fun _ => True) (wX G ad σ T o n f x len)) : Met l yX4_release wsX4_release (zRm 4 104) (zPc G [.ref (ad 0 0), .int x1] (va_P G.1 vwCl (wX G ad σ T o n f x len))) (zQ (zA (wX G ad σ T o n f x len)) (some (.int ((-1)))) (va_P G.1 vwCl (wX G ad σ T o n f x len))) 0 0 (zA (wX G ad σ T o n f x len)) := by
  refine zmkWi (w := (wX G ad σ T o n f x len)) hd (cc := cX4_release) (maxL := 2) (by decide) rfl (Nat.le_of_ble_eq_true rfl) ?_
  intro pr en st mi ar bl me cd ls Q hx hb hml hown hts hG hP hl hD hS hret
  have hown : st.vm.findClass RX4 = some mi.cls := hown
  have hl : lv_has ls 2 [(0, .ref (ad 0 0)), (1, .int x1)] := hl
  have hP : va_P G.1 vwCl (wX G ad σ T o n f x len) st.heap := hP
  have hD : va_D (zA (wX G ad σ T o n f x len)) (wX G ad σ T o n f x len) := hD
  have hinX4 : ∀ w ∈ wsX40, w ∈ wsX4_release := by decide +kernel
  have hf10 := hts (.fieldLink RX4 10 "MapSheets" "now" "LMapSheets$Atlas;") (by decide +kernel)
  have hc := hO.c
  have hs := hO.lS
  have hr := hO.lR
  have hne := hO.lE
  refine lv_aload_n hx hb dX4_release_0 rfl (lv_at hl 0 rfl) ?_
  refine va_get (D := G.1) (ci := 4) (v := .ref (ad 1 0)) (C := RX4) (T := TX4) (N := 4) hx hb hts hinX4 hown hG.1 hP 0 rfl rfl 0 (by decide) hf10 (fun _ h9 => h9) rfl dX4_release_1 ?_
  refine lv_iload_n hx hb dX4_release_4 rfl (lv_at hl 1 rfl) ?_
  refine zrdV (As := [.int x1]) ⟨hx, hb, hml, hown, hts⟩ (kX0_hasEdge l G (ad 1) σ x1 (hO)) (cwV 1 hts gX4_release_X0_hasEdge rfl rfl rfl (by decide +kernel) ⟨Nat.le_of_ble_eq_true rfl, Nat.le_of_ble_eq_true rfl⟩) hG (va_recv (q0 := 0) (ci := 0) hG.1 (wX_pA hP) rfl rfl) ((wX_pA hP)) rfl rfl hl.1 dX4_release_5 (Nat.le_of_ble_eq_true rfl) ⟨Nat.le_of_ble_eq_true rfl, Nat.le_of_ble_eq_true rfl⟩ ?_
  refine lv_if_ne (tgt := 13) hx hb dX4_release_8 (by decide) (fun h8 => ?_) (fun h8 => ?_)
  · skip
    have h8 : ¬ (¬ (0 ≤ x1 ∧ x1 < nI (nE σ))) := fun q => h8 ((z_b0).mpr q)
    have h8 : 0 ≤ x1 ∧ x1 < nI (nE σ) := Decidable.of_not_not h8
    exact absurd h8 hv
  · skip
    have h8 : ¬ (0 ≤ x1 ∧ x1 < nI (nE σ)) := (z_b0).mp h8
    refine lv_iconst (v := (-1)) hx hb dX4_release_11 (by decide) ?_
    exact hret _ _ _ _ _ dX4_release_12 hS (hP) (rfl)
set_option maxHeartbeats 4000000 in
set_option maxRecDepth 100000 in
theorem kX4_release_no (l : Launch) (G : zG) (ad : Nat → Nat → Nat) (σ : Nat → Nat) (T : Nat → Nat → Nat) (o n : Nat) (f : Nat → Int32) (x : Nat → Nat) (len : Nat) {N : Nat} (e : Nat) (hO : Ok N σ) (ho : o < 5) (hn : n ≤ 4) (he : e < nE σ) (hq : agn σ e ≠ 1) (hd : va_D (fun _ => True) (wX G ad σ T o n f x len)) : Met l yX4_release wsX4_release (zRm 4 104) (zPc G [.ref (ad 0 0), .int (nI e)] (va_P G.1 vwCl (wX G ad σ T o n f x len))) (zQ (zA (wX G ad σ T o n f x len)) (some (.int ((-2)))) (va_P G.1 vwCl (wX G ad σ T o n f x len))) 0 0 (zA (wX G ad σ T o n f x len)) := by
  refine zmkWi (w := (wX G ad σ T o n f x len)) hd (cc := cX4_release) (maxL := 2) (by decide) rfl (Nat.le_of_ble_eq_true rfl) ?_
  intro pr en st mi ar bl me cd ls Q hx hb hml hown hts hG hP hl hD hS hret
  have hown : st.vm.findClass RX4 = some mi.cls := hown
  have hl : lv_has ls 2 [(0, .ref (ad 0 0)), (1, .int (nI e))] := hl
  have hP : va_P G.1 vwCl (wX G ad σ T o n f x len) st.heap := hP
  have hD : va_D (zA (wX G ad σ T o n f x len)) (wX G ad σ T o n f x len) := hD
  have hinX4 : ∀ w ∈ wsX40, w ∈ wsX4_release := by decide +kernel
  have hf10 := hts (.fieldLink RX4 10 "MapSheets" "now" "LMapSheets$Atlas;") (by decide +kernel)
  have hc := hO.c
  have hs := hO.lS
  have hr := hO.lR
  have hne := hO.lE
  have hve : 0 ≤ nI e ∧ nI e < nI (nE σ) := z_in he (by omega)
  refine lv_aload_n hx hb dX4_release_0 rfl (lv_at hl 0 rfl) ?_
  refine va_get (D := G.1) (ci := 4) (v := .ref (ad 1 0)) (C := RX4) (T := TX4) (N := 4) hx hb hts hinX4 hown hG.1 hP 0 rfl rfl 0 (by decide) hf10 (fun _ h9 => h9) rfl dX4_release_1 ?_
  refine lv_iload_n hx hb dX4_release_4 rfl (lv_at hl 1 rfl) ?_
  refine zrdV (As := [.int (nI e)]) ⟨hx, hb, hml, hown, hts⟩ (kX0_hasEdge l G (ad 1) σ (nI e) (hO)) (cwV 1 hts gX4_release_X0_hasEdge rfl rfl rfl (by decide +kernel) ⟨Nat.le_of_ble_eq_true rfl, Nat.le_of_ble_eq_true rfl⟩) hG (va_recv (q0 := 0) (ci := 0) hG.1 (wX_pA hP) rfl rfl) ((wX_pA hP)) rfl rfl hl.1 dX4_release_5 (Nat.le_of_ble_eq_true rfl) ⟨Nat.le_of_ble_eq_true rfl, Nat.le_of_ble_eq_true rfl⟩ ?_
  refine lv_if_ne (tgt := 13) hx hb dX4_release_8 (by decide) (fun h8 => ?_) (fun h8 => ?_)
  · skip
    have h8 : ¬ (¬ (0 ≤ (nI e) ∧ (nI e) < nI (nE σ))) := fun q => h8 ((z_b0).mpr q)
    have h8 : 0 ≤ (nI e) ∧ (nI e) < nI (nE σ) := Decidable.of_not_not h8
    refine lv_aload_n hx hb dX4_release_13 rfl (lv_at hl 0 rfl) ?_
    refine va_get (D := G.1) (ci := 4) (v := .ref (ad 1 0)) (C := RX4) (T := TX4) (N := 4) hx hb hts hinX4 hown hG.1 hP 0 rfl rfl 0 (by decide) hf10 (fun _ h9 => h9) rfl dX4_release_14 ?_
    refine lv_iload_n hx hb dX4_release_17 rfl (lv_at hl 1 rfl) ?_
    refine zrdV (As := [.int (nI e)]) ⟨hx, hb, hml, hown, hts⟩ (kX0_isAgreed l G (ad 1) σ e (hO) (by omega)) (cwV 1 hts gX4_release_X0_isAgreed rfl rfl rfl (by decide +kernel) ⟨Nat.le_of_ble_eq_true rfl, Nat.le_of_ble_eq_true rfl⟩) hG (va_recv (q0 := 0) (ci := 0) hG.1 (wX_pA hP) rfl rfl) ((wX_pA hP)) rfl rfl hl.1 dX4_release_18 (Nat.le_of_ble_eq_true rfl) ⟨Nat.le_of_ble_eq_true rfl, Nat.le_of_ble_eq_true rfl⟩ ?_
    refine lv_if_ne (tgt := 27) hx hb dX4_release_21 (by decide) (fun h21 => ?_) (fun h21 => ?_)
    · skip
      have h21 : ¬ (¬ (agn σ e = 1)) := fun q => h21 ((z_b0).mpr q)
      have h21 : agn σ e = 1 := Decidable.of_not_not h21
      exact absurd h21 hq
    · skip
      have h21 : ¬ (agn σ e = 1) := (z_b0).mp h21
      refine lv_bipush (v := (-2)) hx hb dX4_release_24 (by decide) ?_
      exact hret _ _ _ _ _ dX4_release_26 hS (hP) (rfl)
  · skip
    have h8 : ¬ (0 ≤ (nI e) ∧ (nI e) < nI (nE σ)) := (z_b0).mp h8
    exact absurd hve h8
set_option maxHeartbeats 4000000 in
set_option maxRecDepth 100000 in
theorem kX4_release_ok (l : Launch) (G : zG) (ad : Nat → Nat → Nat) (σ : Nat → Nat) (T : Nat → Nat → Nat) (o n : Nat) (f : Nat → Int32) (x : Nat → Nat) (len : Nat) {N : Nat} (e : Nat) (hO : Ok N σ) (ho : o < 5) (hn : n ≤ 4) (he : e < nE σ) (hq : agn σ e = 1) (hd : va_D (fun _ => True) (wX G ad σ T o n f x len)) : Met l yX4_release wsX4_release (zRm 4 104) (zPc G [.ref (ad 0 0), .int (nI e)] (va_P G.1 vwCl (wX G ad σ T o n f x len))) (zQ (zA (wX G ad σ T o n f x len)) (some (.int (nI (fnd (su σ (4 + e) 0) (nE (su σ (4 + e) 0)))))) (va_P G.1 vwCl (wX G ad (su σ (4 + e) 0) (upT T ((o + n) % 5) σ) (nO o n) (nN n) (fun k => nI (blk (su σ (4 + e) 0) (nE (su σ (4 + e) 0)) k)) x len))) 0 0 (zA (wX G ad σ T o n f x len)) := by
  refine zmkWi (w := (wX G ad σ T o n f x len)) hd (cc := cX4_release) (maxL := 2) (by decide) rfl (Nat.le_of_ble_eq_true rfl) ?_
  intro pr en st mi ar bl me cd ls Q hx hb hml hown hts hG hP hl hD hS hret
  have hown : st.vm.findClass RX4 = some mi.cls := hown
  have hl : lv_has ls 2 [(0, .ref (ad 0 0)), (1, .int (nI e))] := hl
  have hP : va_P G.1 vwCl (wX G ad σ T o n f x len) st.heap := hP
  have hD : va_D (zA (wX G ad σ T o n f x len)) (wX G ad σ T o n f x len) := hD
  have hinX4 : ∀ w ∈ wsX40, w ∈ wsX4_release := by decide +kernel
  have hf10 := hts (.fieldLink RX4 10 "MapSheets" "now" "LMapSheets$Atlas;") (by decide +kernel)
  have hf19 := hts (.fieldLink RX4 19 "MapSheets" "history" "LMapSheets$History;") (by decide +kernel)
  have hf26 := hts (.fieldLink RX4 26 "MapSheets" "blocks" "LMapSheets$Blocks;") (by decide +kernel)
  have hc := hO.c
  have hs := hO.lS
  have hr := hO.lR
  have hne := hO.lE
  have hve : 0 ≤ nI e ∧ nI e < nI (nE σ) := z_in he (by omega)
  refine lv_aload_n hx hb dX4_release_0 rfl (lv_at hl 0 rfl) ?_
  refine va_get (D := G.1) (ci := 4) (v := .ref (ad 1 0)) (C := RX4) (T := TX4) (N := 4) hx hb hts hinX4 hown hG.1 hP 0 rfl rfl 0 (by decide) hf10 (fun _ h9 => h9) rfl dX4_release_1 ?_
  refine lv_iload_n hx hb dX4_release_4 rfl (lv_at hl 1 rfl) ?_
  refine zrdV (As := [.int (nI e)]) ⟨hx, hb, hml, hown, hts⟩ (kX0_hasEdge l G (ad 1) σ (nI e) (hO)) (cwV 1 hts gX4_release_X0_hasEdge rfl rfl rfl (by decide +kernel) ⟨Nat.le_of_ble_eq_true rfl, Nat.le_of_ble_eq_true rfl⟩) hG (va_recv (q0 := 0) (ci := 0) hG.1 (wX_pA hP) rfl rfl) ((wX_pA hP)) rfl rfl hl.1 dX4_release_5 (Nat.le_of_ble_eq_true rfl) ⟨Nat.le_of_ble_eq_true rfl, Nat.le_of_ble_eq_true rfl⟩ ?_
  refine lv_if_ne (tgt := 13) hx hb dX4_release_8 (by decide) (fun h8 => ?_) (fun h8 => ?_)
  · skip
    have h8 : ¬ (¬ (0 ≤ (nI e) ∧ (nI e) < nI (nE σ))) := fun q => h8 ((z_b0).mpr q)
    have h8 : 0 ≤ (nI e) ∧ (nI e) < nI (nE σ) := Decidable.of_not_not h8
    refine lv_aload_n hx hb dX4_release_13 rfl (lv_at hl 0 rfl) ?_
    refine va_get (D := G.1) (ci := 4) (v := .ref (ad 1 0)) (C := RX4) (T := TX4) (N := 4) hx hb hts hinX4 hown hG.1 hP 0 rfl rfl 0 (by decide) hf10 (fun _ h9 => h9) rfl dX4_release_14 ?_
    refine lv_iload_n hx hb dX4_release_17 rfl (lv_at hl 1 rfl) ?_
    refine zrdV (As := [.int (nI e)]) ⟨hx, hb, hml, hown, hts⟩ (kX0_isAgreed l G (ad 1) σ e (hO) (by omega)) (cwV 1 hts gX4_release_X0_isAgreed rfl rfl rfl (by decide +kernel) ⟨Nat.le_of_ble_eq_true rfl, Nat.le_of_ble_eq_true rfl⟩) hG (va_recv (q0 := 0) (ci := 0) hG.1 (wX_pA hP) rfl rfl) ((wX_pA hP)) rfl rfl hl.1 dX4_release_18 (Nat.le_of_ble_eq_true rfl) ⟨Nat.le_of_ble_eq_true rfl, Nat.le_of_ble_eq_true rfl⟩ ?_
    refine lv_if_ne (tgt := 27) hx hb dX4_release_21 (by decide) (fun h21 => ?_) (fun h21 => ?_)
    · skip
      have h21 : ¬ (¬ (agn σ e = 1)) := fun q => h21 ((z_b0).mpr q)
      have h21 : agn σ e = 1 := Decidable.of_not_not h21
      refine lv_aload_n hx hb dX4_release_27 rfl (lv_at hl 0 rfl) ?_
      refine va_get (D := G.1) (ci := 4) (v := .ref (ad 2 0)) (C := RX4) (T := TX4) (N := 4) hx hb hts hinX4 hown hG.1 hP 0 rfl rfl 1 (by decide) hf19 (fun _ h9 => h9) rfl dX4_release_28 ?_
      refine lv_aload_n hx hb dX4_release_31 rfl (lv_at hl 0 rfl) ?_
      refine va_get (D := G.1) (ci := 4) (v := .ref (ad 1 0)) (C := RX4) (T := TX4) (N := 4) hx hb hts hinX4 hown hG.1 hP 0 rfl rfl 0 (by decide) hf10 (fun _ h9 => h9) rfl dX4_release_32 ?_
      refine zwrEv (G := G) (wc' := (wHo G (ad 2) (aH ad) o n ++ (wTs G (aH ad) (upT T ((o + n) % 5) σ) 5 ++ wA G (ad 1) σ))) (ws' := (wX G ad σ (upT T ((o + n) % 5) σ) o n f x len)) (va_runV (As := [.ref (ad 1 0)]) (rest := []) ⟨hx, hb, hml, hown, hts⟩ (kX2_recordState l G (ad 2) (aH ad) o n T (ad 1) σ (by omega) (by omega) (zD_any (wX_dHA hD))) (cwV 1 hts gX4_release_X2_recordState rfl rfl rfl (by decide +kernel) ⟨Nat.le_of_ble_eq_true rfl, Nat.le_of_ble_eq_true rfl⟩) (zPreV hG (va_recv (q0 := 0) (ci := 2) hG.1 (wX_pH hP) rfl rfl) (wX_pHA hP)) rfl rfl hl.1 rfl (lv_room (Nat.le_of_ble_eq_true rfl)) dX4_release_35 ⟨Nat.le_of_ble_eq_true rfl, Nat.le_of_ble_eq_true rfl⟩) (wX_eHA) (wX_eHA) hP hD hS (wHA_map _ _ _ _ _ _ _ _ _ _ _ _) (fun H locs hP hD hS => ?_)
      have hP : va_P G.1 vwCl (wX G ad σ (upT T ((o + n) % 5) σ) o n f x len) H := hP
      have hD : va_D (zA (wX G ad σ T o n f x len)) (wX G ad σ (upT T ((o + n) % 5) σ) o n f x len) := hD
      refine lv_aload_n hx hb dX4_release_38 rfl (lv_at hl 0 rfl) ?_
      refine va_get (D := G.1) (ci := 4) (v := .ref (ad 1 0)) (C := RX4) (T := TX4) (N := 4) hx hb hts hinX4 hown hG.1 hP 0 rfl rfl 0 (by decide) hf10 (fun _ h9 => h9) rfl dX4_release_39 ?_
      refine lv_iload_n hx hb dX4_release_42 rfl (lv_at hl 1 rfl) ?_
      refine lv_iconst (v := nI 0) hx hb dX4_release_43 (by decide) ?_
      refine zwrE (G := G) (wc' := (wA G (ad 1) (su σ (4 + e) 0))) (ws' := (wX G ad (su σ (4 + e) 0) (upT T ((o + n) % 5) σ) o n f x len)) (va_runV (As := [.int (nI e), .int (nI 0)]) (rest := []) ⟨hx, hb, hml, hown, hts⟩ (kX0_putAgreed l G (ad 1) σ e 0 (by omega) (zD_any (wX_dA hD))) (cwV 2 hts gX4_release_X0_putAgreed rfl rfl rfl (by decide +kernel) ⟨Nat.le_of_ble_eq_true rfl, Nat.le_of_ble_eq_true rfl⟩) (zPreV hG (va_recv (q0 := 0) (ci := 0) hG.1 (wX_pA hP) rfl rfl) ((wX_pA hP))) rfl rfl hl.1 rfl (lv_room (Nat.le_of_ble_eq_true rfl)) dX4_release_44 ⟨Nat.le_of_ble_eq_true rfl, Nat.le_of_ble_eq_true rfl⟩) (wX_eA) (wX_eA) hP hD hS rfl (fun H locs hP hD hS => ?_)
      have hP : va_P G.1 vwCl (wX G ad (su σ (4 + e) 0) (upT T ((o + n) % 5) σ) o n f x len) H := hP
      have hD : va_D (zA (wX G ad σ T o n f x len)) (wX G ad (su σ (4 + e) 0) (upT T ((o + n) % 5) σ) o n f x len) := hD
      refine lv_pop hx hb dX4_release_47 rfl ?_
      refine lv_aload_n hx hb dX4_release_48 rfl (lv_at hl 0 rfl) ?_
      refine va_get (D := G.1) (ci := 4) (v := .ref (ad 2 0)) (C := RX4) (T := TX4) (N := 4) hx hb hts hinX4 hown hG.1 hP 0 rfl rfl 1 (by decide) hf19 (fun _ h9 => h9) rfl dX4_release_49 ?_
      refine zwrEv (G := G) (wc' := (wHo G (ad 2) (aH ad) (nO o n) (nN n))) (ws' := (wX G ad (su σ (4 + e) 0) (upT T ((o + n) % 5) σ) (nO o n) (nN n) f x len)) (va_runV (As := []) (rest := []) ⟨hx, hb, hml, hown, hts⟩ (kX2_keepRecord l G (ad 2) (aH ad) o n (by omega) (by omega) (zD_any (wX_dH hD))) (cwV 0 hts gX4_release_X2_keepRecord rfl rfl rfl (by decide +kernel) ⟨Nat.le_of_ble_eq_true rfl, Nat.le_of_ble_eq_true rfl⟩) (zPreV hG (va_recv (q0 := 0) (ci := 2) hG.1 (wX_pH hP) rfl rfl) (wX_pH hP)) rfl rfl hl.1 rfl (lv_room (Nat.le_of_ble_eq_true rfl)) dX4_release_52 ⟨Nat.le_of_ble_eq_true rfl, Nat.le_of_ble_eq_true rfl⟩) (wX_eH) (wX_eH) hP hD hS rfl (fun H locs hP hD hS => ?_)
      have hP : va_P G.1 vwCl (wX G ad (su σ (4 + e) 0) (upT T ((o + n) % 5) σ) (nO o n) (nN n) f x len) H := hP
      have hD : va_D (zA (wX G ad σ T o n f x len)) (wX G ad (su σ (4 + e) 0) (upT T ((o + n) % 5) σ) (nO o n) (nN n) f x len) := hD
      refine lv_aload_n hx hb dX4_release_55 rfl (lv_at hl 0 rfl) ?_
      refine va_get (D := G.1) (ci := 4) (v := .ref (ad 3 0)) (C := RX4) (T := TX4) (N := 4) hx hb hts hinX4 hown hG.1 hP 0 rfl rfl 2 (by decide) hf26 (fun _ h9 => h9) rfl dX4_release_56 ?_
      refine lv_aload_n hx hb dX4_release_59 rfl (lv_at hl 0 rfl) ?_
      refine va_get (D := G.1) (ci := 4) (v := .ref (ad 1 0)) (C := RX4) (T := TX4) (N := 4) hx hb hts hinX4 hown hG.1 hP 0 rfl rfl 0 (by decide) hf10 (fun _ h9 => h9) rfl dX4_release_60 ?_
      refine zwrE (G := G) (wc' := (wA G (ad 1) (su σ (4 + e) 0) ++ wB G (ad 3) (fun k => nI (blk (su σ (4 + e) 0) (nE (su σ (4 + e) 0)) k)))) (ws' := (wX G ad (su σ (4 + e) 0) (upT T ((o + n) % 5) σ) (nO o n) (nN n) (fun k => nI (blk (su σ (4 + e) 0) (nE (su σ (4 + e) 0)) k)) x len)) (va_runV (As := [.ref (ad 1 0)]) (rest := []) ⟨hx, hb, hml, hown, hts⟩ (kX1_find l G (ad 1) (ad 3) (su σ (4 + e) 0) f (hO.su_ag (by omega) (by omega)) (zD_any (wX_dAB hD))) (cwV 1 hts gX4_release_X1_find rfl rfl rfl (by decide +kernel) ⟨Nat.le_of_ble_eq_true rfl, Nat.le_of_ble_eq_true rfl⟩) (zPreV hG (va_recv (q0 := 0) (ci := 1) hG.1 (wX_pB hP) rfl rfl) (wX_pAB hP)) rfl rfl hl.1 rfl (lv_room (Nat.le_of_ble_eq_true rfl)) dX4_release_63 ⟨Nat.le_of_ble_eq_true rfl, Nat.le_of_ble_eq_true rfl⟩) (wX_eAB) (wX_eAB) hP hD hS rfl (fun H locs hP hD hS => ?_)
      have hP : va_P G.1 vwCl (wX G ad (su σ (4 + e) 0) (upT T ((o + n) % 5) σ) (nO o n) (nN n) (fun k => nI (blk (su σ (4 + e) 0) (nE (su σ (4 + e) 0)) k)) x len) H := hP
      have hD : va_D (zA (wX G ad σ T o n f x len)) (wX G ad (su σ (4 + e) 0) (upT T ((o + n) % 5) σ) (nO o n) (nN n) (fun k => nI (blk (su σ (4 + e) 0) (nE (su σ (4 + e) 0)) k)) x len) := hD
      exact hret _ _ _ _ _ dX4_release_66 hS (hP) (congrArg nI (rfl))
    · skip
      have h21 : ¬ (agn σ e = 1) := (z_b0).mp h21
      exact absurd hq h21
  · skip
    have h8 : ¬ (0 ≤ (nI e) ∧ (nI e) < nI (nE σ)) := (z_b0).mp h8
    exact absurd hve h8
