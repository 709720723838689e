theorem wF_at (V : Nat → Nat → Nat) {a i : Nat} (h : i < 1972) : wF V (1972 * a + i) = sF (V a) i := by
  unfold wF
  rw [show (1972 * a + i) / 1972 = a by omega, show (1972 * a + i) % 1972 = i by omega]
set_option maxHeartbeats 4000000 in
set_option maxRecDepth 100000 in
theorem kX5_grid_inv (l : Launch) (G : zG) (m : Nat → Nat) (σ : Nat → Nat) (V : Nat → Nat → Nat) (ζ : Nat → Nat) (ns : Nat) (x : Nat → Nat) (len : Nat) (B : Nat → Int32) {N : Nat} (x1 : Int32) (x2 : Int32) (hO : Ok N σ) (hns : ns ≤ 4) (hv : ¬ ((nI 1 ≤ x1 ∧ x1 ≤ nI 6) ∧ (nI 1 ≤ x2 ∧ x2 ≤ nI 6))) (hd : va_D (fun _ => True) (wM G m σ V ζ ns x len B)) : Met l yX5_grid wsX5_grid (zRm 2 40) (zPc G [.ref (m 0), .int x1, .int x2] (va_P G.1 vwCl (wM G m σ V ζ ns x len B))) (zQ (zA (wM G m σ V ζ ns x len B)) (some (.int ((-1)))) (va_P G.1 vwCl (wM G m σ V ζ ns x len B))) 0 0 (zA (wM G m σ V ζ ns x len B)) := by
  refine zmkWi (w := (wM G m σ V ζ ns x len B)) hd (cc := cX5_grid) (maxL := 3) (by decide) rfl (Nat.le_of_ble_eq_true rfl) ?_
  intro pr en st mi ar bl me cd ls Q hx hb hml hown hts hG hP hl hD hS hret
  have hown : st.vm.findClass RX5 = some mi.cls := hown
  have hl : lv_has ls 3 [(0, .ref (m 0)), (1, .int x1), (2, .int x2)] := hl
  have hP : va_P G.1 vwCl (wM G m σ V ζ ns x len B) st.heap := hP
  have hD : va_D (zA (wM G m σ V ζ ns x len B)) (wM G m σ V ζ ns x len B) := hD
  have hc := hO.c
  have hs := hO.lS
  have hr := hO.lR
  have hne := hO.lE
  refine lv_iload_n hx hb dX5_grid_0 rfl (lv_at hl 1 rfl) ?_
  refine lv_iconst (v := nI 1) hx hb dX5_grid_1 (by decide) ?_
  refine lv_bipush (v := nI 6) hx hb dX5_grid_2 (by decide) ?_
  refine zrdS (As := [.int x1, .int (nI 1), .int (nI 6)]) ⟨hx, hb, hml, hown, hts⟩ (kX5_in l G  x1 (nI 1) (nI 6)) (va_cwS 3 hts gX5_grid_X5_in rfl rfl rfl (by decide +kernel) ⟨Nat.le_of_ble_eq_true rfl, Nat.le_of_ble_eq_true rfl⟩) hG (trivial) rfl rfl hl.1 dX5_grid_4 (Nat.le_of_ble_eq_true rfl) ⟨Nat.le_of_ble_eq_true rfl, Nat.le_of_ble_eq_true rfl⟩ ?_
  refine lv_if_eq (tgt := 20) hx hb dX5_grid_7 (by decide) (fun h7 => ?_) (fun h7 => ?_)
  · skip
    have h7 : ¬ ((nI 1) ≤ x1 ∧ x1 ≤ (nI 6)) := (z_b0).mp h7
    refine lv_iconst (v := (-1)) hx hb dX5_grid_20 (by decide) ?_
    exact hret _ _ _ _ _ dX5_grid_21 hS (hP) (rfl)
  · skip
    have h7 : ¬ (¬ ((nI 1) ≤ x1 ∧ x1 ≤ (nI 6))) := fun q => h7 ((z_b0).mpr q)
    have h7 : (nI 1) ≤ x1 ∧ x1 ≤ (nI 6) := Decidable.of_not_not h7
    refine lv_iload_n hx hb dX5_grid_10 rfl (lv_at hl 2 rfl) ?_
    refine lv_iconst (v := nI 1) hx hb dX5_grid_11 (by decide) ?_
    refine lv_bipush (v := nI 6) hx hb dX5_grid_12 (by decide) ?_
    refine zrdS (As := [.int x2, .int (nI 1), .int (nI 6)]) ⟨hx, hb, hml, hown, hts⟩ (kX5_in l G  x2 (nI 1) (nI 6)) (va_cwS 3 hts gX5_grid_X5_in rfl rfl rfl (by decide +kernel) ⟨Nat.le_of_ble_eq_true rfl, Nat.le_of_ble_eq_true rfl⟩) hG (trivial) rfl rfl hl.1 dX5_grid_14 (Nat.le_of_ble_eq_true rfl) ⟨Nat.le_of_ble_eq_true rfl, Nat.le_of_ble_eq_true rfl⟩ ?_
    refine lv_if_ne (tgt := 22) hx hb dX5_grid_17 (by decide) (fun h17 => ?_) (fun h17 => ?_)
    · skip
      have h17 : ¬ (¬ ((nI 1) ≤ x2 ∧ x2 ≤ (nI 6))) := fun q => h17 ((z_b0).mpr q)
      have h17 : (nI 1) ≤ x2 ∧ x2 ≤ (nI 6) := Decidable.of_not_not h17
      exact absurd ⟨h7, h17⟩ hv
    · skip
      have h17 : ¬ ((nI 1) ≤ x2 ∧ x2 ≤ (nI 6)) := (z_b0).mp h17
      refine lv_iconst (v := (-1)) hx hb dX5_grid_20 (by decide) ?_
      exact hret _ _ _ _ _ dX5_grid_21 hS (hP) (rfl)
set_option maxHeartbeats 4000000 in
set_option maxRecDepth 100000 in
theorem kX5_grid_ok (l : Launch) (G : zG) (m : Nat → Nat) (σ : Nat → Nat) (V : Nat → Nat → Nat) (ζ : Nat → Nat) (ns : Nat) (x : Nat → Nat) (len : Nat) (B : Nat → Int32) {N : Nat} (c : Nat) (r : Nat) (hO : Ok N σ) (hns : ns ≤ 4) (hc1 : 1 ≤ c) (hc6 : c ≤ 6) (hr1 : 1 ≤ r) (hr6 : r ≤ 6) (hd : va_D (fun _ => True) (wM G m σ V ζ ns x len B)) : Met l yX5_grid wsX5_grid (zRm 2 40) (zPc G [.ref (m 0), .int (nI c), .int (nI r)] (va_P G.1 vwCl (wM G m σ V ζ ns x len B))) (zQ (zA (wM G m σ V ζ ns x len B)) (some (.int (nI (nE (bgn c r (σ 2) (σ 3)))))) (va_P G.1 vwCl (wM G m (bgn c r (σ 2) (σ 3)) (updv V ns σ) σ (nN ns) x len B))) 0 0 (zA (wM G m σ V ζ ns x len B)) := by
  refine zmkWi (w := (wM G m σ V ζ ns x len B)) hd (cc := cX5_grid) (maxL := 3) (by decide) rfl (Nat.le_of_ble_eq_true rfl) ?_
  intro pr en st mi ar bl me cd ls Q hx hb hml hown hts hG hP hl hD hS hret
  have hown : st.vm.findClass RX5 = some mi.cls := hown
  have hl : lv_has ls 3 [(0, .ref (m 0)), (1, .int (nI c)), (2, .int (nI r))] := hl
  have hP : va_P G.1 vwCl (wM G m σ V ζ ns x len B) st.heap := hP
  have hD : va_D (zA (wM G m σ V ζ ns x len B)) (wM G m σ V ζ ns x len B) := hD
  have hc := hO.c
  have hs := hO.lS
  have hr := hO.lR
  have hne := hO.lE
  have hvc : nI 1 ≤ nI c ∧ nI c ≤ nI 6 := ⟨nI_le (by omega) (by omega), nI_le (by omega) (by omega)⟩
  have hvr : nI 1 ≤ nI r ∧ nI r ≤ nI 6 := ⟨nI_le (by omega) (by omega), nI_le (by omega) (by omega)⟩
  refine lv_iload_n hx hb dX5_grid_0 rfl (lv_at hl 1 rfl) ?_
  refine lv_iconst (v := nI 1) hx hb dX5_grid_1 (by decide) ?_
  refine lv_bipush (v := nI 6) hx hb dX5_grid_2 (by decide) ?_
  refine zrdS (As := [.int (nI c), .int (nI 1), .int (nI 6)]) ⟨hx, hb, hml, hown, hts⟩ (kX5_in l G  (nI c) (nI 1) (nI 6)) (va_cwS 3 hts gX5_grid_X5_in rfl rfl rfl (by decide +kernel) ⟨Nat.le_of_ble_eq_true rfl, Nat.le_of_ble_eq_true rfl⟩) hG (trivial) rfl rfl hl.1 dX5_grid_4 (Nat.le_of_ble_eq_true rfl) ⟨Nat.le_of_ble_eq_true rfl, Nat.le_of_ble_eq_true rfl⟩ ?_
  refine lv_if_eq (tgt := 20) hx hb dX5_grid_7 (by decide) (fun h7 => ?_) (fun h7 => ?_)
  · skip
    have h7 : ¬ ((nI 1) ≤ (nI c) ∧ (nI c) ≤ (nI 6)) := (z_b0).mp h7
    exact absurd hvc h7
  · skip
    have h7 : ¬ (¬ ((nI 1) ≤ (nI c) ∧ (nI c) ≤ (nI 6))) := fun q => h7 ((z_b0).mpr q)
    have h7 : (nI 1) ≤ (nI c) ∧ (nI c) ≤ (nI 6) := Decidable.of_not_not h7
    refine lv_iload_n hx hb dX5_grid_10 rfl (lv_at hl 2 rfl) ?_
    refine lv_iconst (v := nI 1) hx hb dX5_grid_11 (by decide) ?_
    refine lv_bipush (v := nI 6) hx hb dX5_grid_12 (by decide) ?_
    refine zrdS (As := [.int (nI r), .int (nI 1), .int (nI 6)]) ⟨hx, hb, hml, hown, hts⟩ (kX5_in l G  (nI r) (nI 1) (nI 6)) (va_cwS 3 hts gX5_grid_X5_in rfl rfl rfl (by decide +kernel) ⟨Nat.le_of_ble_eq_true rfl, Nat.le_of_ble_eq_true rfl⟩) hG (trivial) rfl rfl hl.1 dX5_grid_14 (Nat.le_of_ble_eq_true rfl) ⟨Nat.le_of_ble_eq_true rfl, Nat.le_of_ble_eq_true rfl⟩ ?_
    refine lv_if_ne (tgt := 22) hx hb dX5_grid_17 (by decide) (fun h17 => ?_) (fun h17 => ?_)
    · skip
      have h17 : ¬ (¬ ((nI 1) ≤ (nI r) ∧ (nI r) ≤ (nI 6))) := fun q => h17 ((z_b0).mpr q)
      have h17 : (nI 1) ≤ (nI r) ∧ (nI r) ≤ (nI 6) := Decidable.of_not_not h17
      refine lv_aload_n hx hb dX5_grid_22 rfl (lv_at hl 0 rfl) ?_
      refine zwrWv (G := G) (wc := (wM G m σ V ζ ns x len B)) (wc' := (wM G m σ V σ ns x len B)) (va_runV (As := []) (rest := []) ⟨hx, hb, hml, hown, hts⟩ (kX5_hold l G m σ V ζ ns x len B (zD_any hD)) (cwV 0 hts gX5_grid_X5_hold rfl rfl rfl (by decide +kernel) ⟨Nat.le_of_ble_eq_true rfl, Nat.le_of_ble_eq_true rfl⟩) (zPreV hG (va_recv (q0 := 0) (ci := 5) hG.1 hP rfl rfl) (hP)) rfl rfl hl.1 rfl (lv_room (Nat.le_of_ble_eq_true rfl)) dX5_grid_23 ⟨Nat.le_of_ble_eq_true rfl, Nat.le_of_ble_eq_true rfl⟩) hP hD hS (wM_map ..) (fun H locs hP hD hS => ?_)
      have hP : va_P G.1 vwCl (wM G m σ V σ ns x len B) H := hP
      have hD : va_D (zA (wM G m σ V ζ ns x len B)) (wM G m σ V σ ns x len B) := hD
      refine lv_aload_n hx hb dX5_grid_26 rfl (lv_at hl 0 rfl) ?_
      refine lv_iload_n hx hb dX5_grid_27 rfl (lv_at hl 1 rfl) ?_
      refine lv_iload_n hx hb dX5_grid_28 rfl (lv_at hl 2 rfl) ?_
      refine zwrWv (G := G) (wc := (wM G m σ V σ ns x len B)) (wc' := (wM G m (bgn c r (σ 2) (σ 3)) V σ ns x len B)) (va_runV (As := [.int (nI c), .int (nI r)]) (rest := []) ⟨hx, hb, hml, hown, hts⟩ (kX5_begins l G m σ V σ ns x len B c r (zD_any hD)) (cwV 2 hts gX5_grid_X5_begins rfl rfl rfl (by decide +kernel) ⟨Nat.le_of_ble_eq_true rfl, Nat.le_of_ble_eq_true rfl⟩) (zPreV hG (va_recv (q0 := 0) (ci := 5) hG.1 hP rfl rfl) (hP)) rfl rfl hl.1 rfl (lv_room (Nat.le_of_ble_eq_true rfl)) dX5_grid_29 ⟨Nat.le_of_ble_eq_true rfl, Nat.le_of_ble_eq_true rfl⟩) hP hD hS (wM_map ..) (fun H locs hP hD hS => ?_)
      have hP : va_P G.1 vwCl (wM G m (bgn c r (σ 2) (σ 3)) V σ ns x len B) H := hP
      have hD : va_D (zA (wM G m σ V ζ ns x len B)) (wM G m (bgn c r (σ 2) (σ 3)) V σ ns x len B) := hD
      refine lv_aload_n hx hb dX5_grid_32 rfl (lv_at hl 0 rfl) ?_
      refine lv_aload_n hx hb dX5_grid_33 rfl (lv_at hl 0 rfl) ?_
      refine zrdV (As := []) ⟨hx, hb, hml, hown, hts⟩ (kX5_edges l G m (bgn c r (σ 2) (σ 3)) V σ ns x len B (hO.bg ⟨hc1, hc6⟩ ⟨hr1, hr6⟩)) (cwV 0 hts gX5_grid_X5_edges rfl rfl rfl (by decide +kernel) ⟨Nat.le_of_ble_eq_true rfl, Nat.le_of_ble_eq_true rfl⟩) hG (va_recv (q0 := 0) (ci := 5) hG.1 hP rfl rfl) (hP) rfl rfl hl.1 dX5_grid_34 (Nat.le_of_ble_eq_true rfl) ⟨Nat.le_of_ble_eq_true rfl, Nat.le_of_ble_eq_true rfl⟩ ?_
      refine zwrW (G := G) (wc := (wM G m (bgn c r (σ 2) (σ 3)) V σ ns x len B)) (wc' := (wM G m (bgn c r (σ 2) (σ 3)) (updv V ns σ) σ (nN ns) x len B)) (va_runV (As := [.int (nI (nE (bgn c r (σ 2) (σ 3))))]) (rest := []) ⟨hx, hb, hml, hown, hts⟩ (kX5_records l G m (bgn c r (σ 2) (σ 3)) V σ ns x len B (nI (nE (bgn c r (σ 2) (σ 3)))) (by omega) (zD_any hD)) (cwV 1 hts gX5_grid_X5_records rfl rfl rfl (by decide +kernel) ⟨Nat.le_of_ble_eq_true rfl, Nat.le_of_ble_eq_true rfl⟩) (zPreV hG (va_recv (q0 := 0) (ci := 5) hG.1 hP rfl rfl) (hP)) rfl rfl hl.1 rfl (lv_room (Nat.le_of_ble_eq_true rfl)) dX5_grid_37 ⟨Nat.le_of_ble_eq_true rfl, Nat.le_of_ble_eq_true rfl⟩) hP hD hS (wM_map ..) (fun H locs hP hD hS => ?_)
      have hP : va_P G.1 vwCl (wM G m (bgn c r (σ 2) (σ 3)) (updv V ns σ) σ (nN ns) x len B) H := hP
      have hD : va_D (zA (wM G m σ V ζ ns x len B)) (wM G m (bgn c r (σ 2) (σ 3)) (updv V ns σ) σ (nN ns) x len B) := hD
      exact hret _ _ _ _ _ dX5_grid_40 hS (hP) (rfl)
    · skip
      have h17 : ¬ ((nI 1) ≤ (nI r) ∧ (nI r) ≤ (nI 6)) := (z_b0).mp h17
      exact absurd hvr h17
set_option maxHeartbeats 4000000 in
set_option maxRecDepth 100000 in
theorem kX5_set_inv (l : Launch) (G : zG) (m : Nat → Nat) (σ : Nat → Nat) (V : Nat → Nat → Nat) (ζ : Nat → Nat) (ns : Nat) (x : Nat → Nat) (len : Nat) (B : Nat → Int32) {N : Nat} (x1 : Int32) (x2 : Int32) (hO : Ok N σ) (hns : ns ≤ 4) (hv : ¬ ((nI 0 ≤ x1 ∧ x1 ≤ nI 1) ∧ (nI 0 ≤ x2 ∧ x2 ≤ (if x1 = 0 then nI 1 else nI 1000)))) (hd : va_D (fun _ => True) (wM G m σ V ζ ns x len B)) : Met l yX5_set wsX5_set (zRm 1 22) (zPc G [.ref (m 0), .int x1, .int x2] (va_P G.1 vwCl (wM G m σ V ζ ns x len B))) (zQ (zA (wM G m σ V ζ ns x len B)) (some (.int ((-1)))) (va_P G.1 vwCl (wM G m σ V ζ ns x len B))) 0 0 (zA (wM G m σ V ζ ns x len B)) := by
  refine zmkWi (w := (wM G m σ V ζ ns x len B)) hd (cc := cX5_set) (maxL := 4) (by decide) rfl (Nat.le_of_ble_eq_true rfl) ?_
  intro pr en st mi ar bl me cd ls Q hx hb hml hown hts hG hP hl hD hS hret
  have hown : st.vm.findClass RX5 = some mi.cls := hown
  have hl : lv_has ls 4 [(0, .ref (m 0)), (1, .int x1), (2, .int x2)] := hl
  have hP : va_P G.1 vwCl (wM G m σ V ζ ns x len B) st.heap := hP
  have hD : va_D (zA (wM G m σ V ζ ns x len B)) (wM G m σ V ζ ns x len B) := hD
  have hc := hO.c
  have hs := hO.lS
  have hr := hO.lR
  have hne := hO.lE
  refine lv_iload_n hx hb dX5_set_0 rfl (lv_at hl 1 rfl) ?_
  refine lv_iconst (v := nI 0) hx hb dX5_set_1 (by decide) ?_
  refine lv_iconst (v := nI 1) hx hb dX5_set_2 (by decide) ?_
  refine zrdS (As := [.int x1, .int (nI 0), .int (nI 1)]) ⟨hx, hb, hml, hown, hts⟩ (kX5_in l G  x1 (nI 0) (nI 1)) (va_cwS 3 hts gX5_set_X5_in rfl rfl rfl (by decide +kernel) ⟨Nat.le_of_ble_eq_true rfl, Nat.le_of_ble_eq_true rfl⟩) hG (trivial) rfl rfl hl.1 dX5_set_3 (Nat.le_of_ble_eq_true rfl) ⟨Nat.le_of_ble_eq_true rfl, Nat.le_of_ble_eq_true rfl⟩ ?_
  refine lv_if_eq (tgt := 28) hx hb dX5_set_6 (by decide) (fun h6 => ?_) (fun h6 => ?_)
  · skip
    have h6 : ¬ ((nI 0) ≤ x1 ∧ x1 ≤ (nI 1)) := (z_b0).mp h6
    refine lv_iconst (v := (-1)) hx hb dX5_set_28 (by decide) ?_
    exact hret _ _ _ _ _ dX5_set_29 hS (hP) (rfl)
  · skip
    have h6 : ¬ (¬ ((nI 0) ≤ x1 ∧ x1 ≤ (nI 1))) := fun q => h6 ((z_b0).mpr q)
    have h6 : (nI 0) ≤ x1 ∧ x1 ≤ (nI 1) := Decidable.of_not_not h6
    refine lv_iload_n hx hb dX5_set_9 rfl (lv_at hl 2 rfl) ?_
    refine lv_iconst (v := nI 0) hx hb dX5_set_10 (by decide) ?_
    refine lv_iload_n hx hb dX5_set_11 rfl (lv_at hl 1 rfl) ?_
    refine lv_if_ne (tgt := 19) hx hb dX5_set_12 (by decide) (fun h12 => ?_) (fun h12 => ?_)
    · skip
      refine lv_sipush (v := nI 1000) hx hb dX5_set_19 (by decide) ?_
      refine zrdS (As := [.int x2, .int (nI 0), .int (nI 1000)]) ⟨hx, hb, hml, hown, hts⟩ (kX5_in l G  x2 (nI 0) (nI 1000)) (va_cwS 3 hts gX5_set_X5_in rfl rfl rfl (by decide +kernel) ⟨Nat.le_of_ble_eq_true rfl, Nat.le_of_ble_eq_true rfl⟩) hG (trivial) rfl rfl hl.1 dX5_set_22 (Nat.le_of_ble_eq_true rfl) ⟨Nat.le_of_ble_eq_true rfl, Nat.le_of_ble_eq_true rfl⟩ ?_
      refine lv_if_ne (tgt := 30) hx hb dX5_set_25 (by decide) (fun h25 => ?_) (fun h25 => ?_)
      · skip
        have h25 : ¬ (¬ ((nI 0) ≤ x2 ∧ x2 ≤ (nI 1000))) := fun q => h25 ((z_b0).mpr q)
        have h25 : (nI 0) ≤ x2 ∧ x2 ≤ (nI 1000) := Decidable.of_not_not h25
        exact absurd ⟨h6, by rw [if_neg h12]; exact h25⟩ hv
      · skip
        have h25 : ¬ ((nI 0) ≤ x2 ∧ x2 ≤ (nI 1000)) := (z_b0).mp h25
        refine lv_iconst (v := (-1)) hx hb dX5_set_28 (by decide) ?_
        exact hret _ _ _ _ _ dX5_set_29 hS (hP) (rfl)
    · skip
      refine lv_iconst (v := nI 1) hx hb dX5_set_15 (by decide) ?_
      refine lv_goto (tgt := 22) hx hb dX5_set_16 (by decide) ?_
      refine zrdS (As := [.int x2, .int (nI 0), .int (nI 1)]) ⟨hx, hb, hml, hown, hts⟩ (kX5_in l G  x2 (nI 0) (nI 1)) (va_cwS 3 hts gX5_set_X5_in rfl rfl rfl (by decide +kernel) ⟨Nat.le_of_ble_eq_true rfl, Nat.le_of_ble_eq_true rfl⟩) hG (trivial) rfl rfl hl.1 dX5_set_22 (Nat.le_of_ble_eq_true rfl) ⟨Nat.le_of_ble_eq_true rfl, Nat.le_of_ble_eq_true rfl⟩ ?_
      refine lv_if_ne (tgt := 30) hx hb dX5_set_25 (by decide) (fun h25 => ?_) (fun h25 => ?_)
      · skip
        have h25 : ¬ (¬ ((nI 0) ≤ x2 ∧ x2 ≤ (nI 1))) := fun q => h25 ((z_b0).mpr q)
        have h25 : (nI 0) ≤ x2 ∧ x2 ≤ (nI 1) := Decidable.of_not_not h25
        exact absurd ⟨h6, by rw [if_pos h12]; exact h25⟩ hv
      · skip
        have h25 : ¬ ((nI 0) ≤ x2 ∧ x2 ≤ (nI 1)) := (z_b0).mp h25
        refine lv_iconst (v := (-1)) hx hb dX5_set_28 (by decide) ?_
        exact hret _ _ _ _ _ dX5_set_29 hS (hP) (rfl)
set_option maxHeartbeats 4000000 in
set_option maxRecDepth 100000 in
theorem kX5_set_guard (l : Launch) (G : zG) (m : Nat → Nat) (σ : Nat → Nat) (V : Nat → Nat → Nat) (ζ : Nat → Nat) (ns : Nat) (x : Nat → Nat) (len : Nat) (B : Nat → Int32) {N : Nat} (v : Nat) (hO : Ok N σ) (hns : ns ≤ 4) (hv1 : v ≤ 1) (hd : va_D (fun _ => True) (wM G m σ V ζ ns x len B)) : Met l yX5_set wsX5_set (zRm 1 22) (zPc G [.ref (m 0), .int (nI 0), .int (nI v)] (va_P G.1 vwCl (wM G m σ V ζ ns x len B))) (zQ (zA (wM G m σ V ζ ns x len B)) (some (.int (nI (σ 2)))) (va_P G.1 vwCl (wM G m (su σ 2 v) (updv V ns σ) σ (nN ns) x len B))) 0 0 (zA (wM G m σ V ζ ns x len B)) := by
  refine zmkWi (w := (wM G m σ V ζ ns x len B)) hd (cc := cX5_set) (maxL := 4) (by decide) rfl (Nat.le_of_ble_eq_true rfl) ?_
  intro pr en st mi ar bl me cd ls Q hx hb hml hown hts hG hP hl hD hS hret
  have hown : st.vm.findClass RX5 = some mi.cls := hown
  have hl : lv_has ls 4 [(0, .ref (m 0)), (1, .int (nI 0)), (2, .int (nI v))] := hl
  have hP : va_P G.1 vwCl (wM G m σ V ζ ns x len B) st.heap := hP
  have hD : va_D (zA (wM G m σ V ζ ns x len B)) (wM G m σ V ζ ns x len B) := hD
  have hinX5 : ∀ w ∈ wsX50, w ∈ wsX5_set := by decide +kernel
  have hf7 := hts (.fieldLink RX5 7 "MapSheetsModel" "s" "[I") (by decide +kernel)
  have hc := hO.c
  have hs := hO.lS
  have hr := hO.lR
  have hne := hO.lE
  have hvw : nI 0 ≤ nI 0 ∧ nI 0 ≤ nI 1 := by decide
  have hvv : nI 0 ≤ nI v ∧ nI v ≤ nI 1 := z_lem hv1 (by omega)
  refine lv_iload_n hx hb dX5_set_0 rfl (lv_at hl 1 rfl) ?_
  refine lv_iconst (v := nI 0) hx hb dX5_set_1 (by decide) ?_
  refine lv_iconst (v := nI 1) hx hb dX5_set_2 (by decide) ?_
  refine zrdS (As := [.int (nI 0), .int (nI 0), .int (nI 1)]) ⟨hx, hb, hml, hown, hts⟩ (kX5_in l G  (nI 0) (nI 0) (nI 1)) (va_cwS 3 hts gX5_set_X5_in rfl rfl rfl (by decide +kernel) ⟨Nat.le_of_ble_eq_true rfl, Nat.le_of_ble_eq_true rfl⟩) hG (trivial) rfl rfl hl.1 dX5_set_3 (Nat.le_of_ble_eq_true rfl) ⟨Nat.le_of_ble_eq_true rfl, Nat.le_of_ble_eq_true rfl⟩ ?_
  refine lv_if_eq (tgt := 28) hx hb dX5_set_6 (by decide) (fun h6 => ?_) (fun h6 => ?_)
  · skip
    have h6 : ¬ ((nI 0) ≤ (nI 0) ∧ (nI 0) ≤ (nI 1)) := (z_b0).mp h6
    exact absurd hvw h6
  · skip
    have h6 : ¬ (¬ ((nI 0) ≤ (nI 0) ∧ (nI 0) ≤ (nI 1))) := fun q => h6 ((z_b0).mpr q)
    have h6 : (nI 0) ≤ (nI 0) ∧ (nI 0) ≤ (nI 1) := Decidable.of_not_not h6
    refine lv_iload_n hx hb dX5_set_9 rfl (lv_at hl 2 rfl) ?_
    refine lv_iconst (v := nI 0) hx hb dX5_set_10 (by decide) ?_
    refine lv_iload_n hx hb dX5_set_11 rfl (lv_at hl 1 rfl) ?_
    refine lv_if_ne (tgt := 19) hx hb dX5_set_12 (by decide) (fun h12 => ?_) (fun h12 => ?_)
    · skip
      have h12 : ¬ (0 = 0) := fun q => h12 ((z_eq0 (by omega)).mpr q)
      have h12 : 0 < 0 := Nat.pos_of_ne_zero h12
      exfalso; omega
    · skip
      have h12 : 0 = 0 := (z_eq0 (by omega)).mp h12
      refine lv_iconst (v := nI 1) hx hb dX5_set_15 (by decide) ?_
      refine lv_goto (tgt := 22) hx hb dX5_set_16 (by decide) ?_
      refine zrdS (As := [.int (nI v), .int (nI 0), .int (nI 1)]) ⟨hx, hb, hml, hown, hts⟩ (kX5_in l G  (nI v) (nI 0) (nI 1)) (va_cwS 3 hts gX5_set_X5_in rfl rfl rfl (by decide +kernel) ⟨Nat.le_of_ble_eq_true rfl, Nat.le_of_ble_eq_true rfl⟩) hG (trivial) rfl rfl hl.1 dX5_set_22 (Nat.le_of_ble_eq_true rfl) ⟨Nat.le_of_ble_eq_true rfl, Nat.le_of_ble_eq_true rfl⟩ ?_
      refine lv_if_ne (tgt := 30) hx hb dX5_set_25 (by decide) (fun h25 => ?_) (fun h25 => ?_)
      · skip
        have h25 : ¬ (¬ ((nI 0) ≤ (nI v) ∧ (nI v) ≤ (nI 1))) := fun q => h25 ((z_b0).mpr q)
        have h25 : (nI 0) ≤ (nI v) ∧ (nI v) ≤ (nI 1) := Decidable.of_not_not h25
        refine lv_aload_n hx hb dX5_set_30 rfl (lv_at hl 0 rfl) ?_
        refine zwrWv (G := G) (wc := (wM G m σ V ζ ns x len B)) (wc' := (wM G m σ V σ ns x len B)) (va_runV (As := []) (rest := []) ⟨hx, hb, hml, hown, hts⟩ (kX5_hold l G m σ V ζ ns x len B (zD_any hD)) (cwV 0 hts gX5_set_X5_hold rfl rfl rfl (by decide +kernel) ⟨Nat.le_of_ble_eq_true rfl, Nat.le_of_ble_eq_true rfl⟩) (zPreV hG (va_recv (q0 := 0) (ci := 5) hG.1 hP rfl rfl) (hP)) rfl rfl hl.1 rfl (lv_room (Nat.le_of_ble_eq_true rfl)) dX5_set_31 ⟨Nat.le_of_ble_eq_true rfl, Nat.le_of_ble_eq_true rfl⟩) hP hD hS (wM_map ..) (fun H locs hP hD hS => ?_)
        have hP : va_P G.1 vwCl (wM G m σ V σ ns x len B) H := hP
        have hD : va_D (zA (wM G m σ V ζ ns x len B)) (wM G m σ V σ ns x len B) := hD
        refine lv_aload_n hx hb dX5_set_34 rfl (lv_at hl 0 rfl) ?_
        refine va_get (D := G.1) (ci := 5) (v := .ref (m 1)) (C := RX5) (T := TX5) (N := 7) hx hb hts hinX5 hown hG.1 hP 0 rfl rfl 0 (by decide) hf7 (fun _ h9 => h9) rfl dX5_set_35 ?_
        refine lv_iconst (v := nI 2) hx hb dX5_set_38 (by decide) ?_
        refine lv_iload_n hx hb dX5_set_39 rfl (lv_at hl 1 rfl) ?_
        refine lv_iadd hx hb dX5_set_40 ?_
        refine lv_topi (nm_r (e' := nI (2 + 0)) (nI_add _ _) ?_)
        refine va_iald hx hb hG.1 hP 1 0 rfl rfl (vp_in_nI (n := 2 + 0) (N := 1972) (by omega) (by omega)) dX5_set_41 ?_
        refine lv_topi (nm_r (e' := nI (σ (2 + 0))) (by rw [nI_clamp (by omega)]; exact sF_n (by omega)) ?_)
        refine lv_istore_n (lv' := [(3, .int (nI (σ (2 + 0)))), (0, .ref (m 0)), (1, .int (nI 0)), (2, .int (nI v))]) hx hb dX5_set_42 rfl hl (by decide) rfl (fun ls hl => ?_)
        refine lv_aload_n hx hb dX5_set_43 rfl (lv_at hl 1 rfl) ?_
        refine va_get (D := G.1) (ci := 5) (v := .ref (m 1)) (C := RX5) (T := TX5) (N := 7) hx hb hts hinX5 hown hG.1 hP 0 rfl rfl 0 (by decide) hf7 (fun _ h9 => h9) rfl dX5_set_44 ?_
        refine lv_iconst (v := nI 2) hx hb dX5_set_47 (by decide) ?_
        refine lv_iload_n hx hb dX5_set_48 rfl (lv_at hl 2 rfl) ?_
        refine lv_iadd hx hb dX5_set_49 ?_
        refine lv_topi (nm_r (e' := nI (2 + 0)) (nI_add _ _) ?_)
        refine lv_iload_n hx hb dX5_set_50 rfl (lv_at hl 3 rfl) ?_
        refine va_iast hx hb hG.1 hP hD hS 1 0 rfl rfl (vp_in_nI (n := 2 + 0) (N := 1972) (by omega) (by omega)) dX5_set_51 (fun H locs hP hD hS => ?_)
        rw [nI_clamp (show 2 + 0 < 2 ^ 31 by omega)] at hP hD
        rw [sF_su (by omega)] at hP hD
        have hP : va_P G.1 vwCl (wM G m (su σ (2 + 0) v) V σ ns x len B) H := hP
        have hD : va_D (zA (wM G m σ V ζ ns x len B)) (wM G m (su σ (2 + 0) v) V σ ns x len B) := hD
        refine lv_aload_n hx hb dX5_set_52 rfl (lv_at hl 1 rfl) ?_
        refine lv_iload_n hx hb dX5_set_53 rfl (lv_at hl 0 rfl) ?_
        refine zwrW (G := G) (wc := (wM G m (su σ (2 + 0) v) V σ ns x len B)) (wc' := (wM G m (su σ (2 + 0) v) (updv V ns σ) σ (nN ns) x len B)) (va_runV (As := [.int (nI (σ (2 + 0)))]) (rest := []) ⟨hx, hb, hml, hown, hts⟩ (kX5_records l G m (su σ (2 + 0) v) V σ ns x len B (nI (σ (2 + 0))) (by omega) (zD_any hD)) (cwV 1 hts gX5_set_X5_records rfl rfl rfl (by decide +kernel) ⟨Nat.le_of_ble_eq_true rfl, Nat.le_of_ble_eq_true rfl⟩) (zPreV hG (va_recv (q0 := 0) (ci := 5) hG.1 hP rfl rfl) (hP)) rfl rfl hl.1 rfl (lv_room (Nat.le_of_ble_eq_true rfl)) dX5_set_54 ⟨Nat.le_of_ble_eq_true rfl, Nat.le_of_ble_eq_true rfl⟩) hP hD hS (wM_map ..) (fun H locs hP hD hS => ?_)
        have hP : va_P G.1 vwCl (wM G m (su σ (2 + 0) v) (updv V ns σ) σ (nN ns) x len B) H := hP
        have hD : va_D (zA (wM G m σ V ζ ns x len B)) (wM G m (su σ (2 + 0) v) (updv V ns σ) σ (nN ns) x len B) := hD
        exact hret _ _ _ _ _ dX5_set_57 hS (hP) (rfl)
      · skip
        have h25 : ¬ ((nI 0) ≤ (nI v) ∧ (nI v) ≤ (nI 1)) := (z_b0).mp h25
        exact absurd hvv h25
set_option maxHeartbeats 4000000 in
set_option maxRecDepth 100000 in
theorem kX5_set_tol (l : Launch) (G : zG) (m : Nat → Nat) (σ : Nat → Nat) (V : Nat → Nat → Nat) (ζ : Nat → Nat) (ns : Nat) (x : Nat → Nat) (len : Nat) (B : Nat → Int32) {N : Nat} (v : Nat) (hO : Ok N σ) (hns : ns ≤ 4) (hv1 : v ≤ 1000) (hd : va_D (fun _ => True) (wM G m σ V ζ ns x len B)) : Met l yX5_set wsX5_set (zRm 1 22) (zPc G [.ref (m 0), .int (nI 1), .int (nI v)] (va_P G.1 vwCl (wM G m σ V ζ ns x len B))) (zQ (zA (wM G m σ V ζ ns x len B)) (some (.int (nI (σ 3)))) (va_P G.1 vwCl (wM G m (su σ 3 v) (updv V ns σ) σ (nN ns) x len B))) 0 0 (zA (wM G m σ V ζ ns x len B)) := by
  refine zmkWi (w := (wM G m σ V ζ ns x len B)) hd (cc := cX5_set) (maxL := 4) (by decide) rfl (Nat.le_of_ble_eq_true rfl) ?_
  intro pr en st mi ar bl me cd ls Q hx hb hml hown hts hG hP hl hD hS hret
  have hown : st.vm.findClass RX5 = some mi.cls := hown
  have hl : lv_has ls 4 [(0, .ref (m 0)), (1, .int (nI 1)), (2, .int (nI v))] := hl
  have hP : va_P G.1 vwCl (wM G m σ V ζ ns x len B) st.heap := hP
  have hD : va_D (zA (wM G m σ V ζ ns x len B)) (wM G m σ V ζ ns x len B) := hD
  have hinX5 : ∀ w ∈ wsX50, w ∈ wsX5_set := by decide +kernel
  have hf7 := hts (.fieldLink RX5 7 "MapSheetsModel" "s" "[I") (by decide +kernel)
  have hc := hO.c
  have hs := hO.lS
  have hr := hO.lR
  have hne := hO.lE
  have hvw : nI 0 ≤ nI 1 ∧ nI 1 ≤ nI 1 := by decide
  have hvv : nI 0 ≤ nI v ∧ nI v ≤ nI 1000 := z_lem hv1 (by omega)
  refine lv_iload_n hx hb dX5_set_0 rfl (lv_at hl 1 rfl) ?_
  refine lv_iconst (v := nI 0) hx hb dX5_set_1 (by decide) ?_
  refine lv_iconst (v := nI 1) hx hb dX5_set_2 (by decide) ?_
  refine zrdS (As := [.int (nI 1), .int (nI 0), .int (nI 1)]) ⟨hx, hb, hml, hown, hts⟩ (kX5_in l G  (nI 1) (nI 0) (nI 1)) (va_cwS 3 hts gX5_set_X5_in rfl rfl rfl (by decide +kernel) ⟨Nat.le_of_ble_eq_true rfl, Nat.le_of_ble_eq_true rfl⟩) hG (trivial) rfl rfl hl.1 dX5_set_3 (Nat.le_of_ble_eq_true rfl) ⟨Nat.le_of_ble_eq_true rfl, Nat.le_of_ble_eq_true rfl⟩ ?_
  refine lv_if_eq (tgt := 28) hx hb dX5_set_6 (by decide) (fun h6 => ?_) (fun h6 => ?_)
  · skip
    have h6 : ¬ ((nI 0) ≤ (nI 1) ∧ (nI 1) ≤ (nI 1)) := (z_b0).mp h6
    exact absurd hvw h6
  · skip
    have h6 : ¬ (¬ ((nI 0) ≤ (nI 1) ∧ (nI 1) ≤ (nI 1))) := fun q => h6 ((z_b0).mpr q)
    have h6 : (nI 0) ≤ (nI 1) ∧ (nI 1) ≤ (nI 1) := Decidable.of_not_not h6
    refine lv_iload_n hx hb dX5_set_9 rfl (lv_at hl 2 rfl) ?_
    refine lv_iconst (v := nI 0) hx hb dX5_set_10 (by decide) ?_
    refine lv_iload_n hx hb dX5_set_11 rfl (lv_at hl 1 rfl) ?_
    refine lv_if_ne (tgt := 19) hx hb dX5_set_12 (by decide) (fun h12 => ?_) (fun h12 => ?_)
    · skip
      have h12 : ¬ (1 = 0) := fun q => h12 ((z_eq0 (by omega)).mpr q)
      have h12 : 0 < 1 := Nat.pos_of_ne_zero h12
      refine lv_sipush (v := nI 1000) hx hb dX5_set_19 (by decide) ?_
      refine zrdS (As := [.int (nI v), .int (nI 0), .int (nI 1000)]) ⟨hx, hb, hml, hown, hts⟩ (kX5_in l G  (nI v) (nI 0) (nI 1000)) (va_cwS 3 hts gX5_set_X5_in rfl rfl rfl (by decide +kernel) ⟨Nat.le_of_ble_eq_true rfl, Nat.le_of_ble_eq_true rfl⟩) hG (trivial) rfl rfl hl.1 dX5_set_22 (Nat.le_of_ble_eq_true rfl) ⟨Nat.le_of_ble_eq_true rfl, Nat.le_of_ble_eq_true rfl⟩ ?_
      refine lv_if_ne (tgt := 30) hx hb dX5_set_25 (by decide) (fun h25 => ?_) (fun h25 => ?_)
      · skip
        have h25 : ¬ (¬ ((nI 0) ≤ (nI v) ∧ (nI v) ≤ (nI 1000))) := fun q => h25 ((z_b0).mpr q)
        have h25 : (nI 0) ≤ (nI v) ∧ (nI v) ≤ (nI 1000) := Decidable.of_not_not h25
        refine lv_aload_n hx hb dX5_set_30 rfl (lv_at hl 0 rfl) ?_
        refine zwrWv (G := G) (wc := (wM G m σ V ζ ns x len B)) (wc' := (wM G m σ V σ ns x len B)) (va_runV (As := []) (rest := []) ⟨hx, hb, hml, hown, hts⟩ (kX5_hold l G m σ V ζ ns x len B (zD_any hD)) (cwV 0 hts gX5_set_X5_hold rfl rfl rfl (by decide +kernel) ⟨Nat.le_of_ble_eq_true rfl, Nat.le_of_ble_eq_true rfl⟩) (zPreV hG (va_recv (q0 := 0) (ci := 5) hG.1 hP rfl rfl) (hP)) rfl rfl hl.1 rfl (lv_room (Nat.le_of_ble_eq_true rfl)) dX5_set_31 ⟨Nat.le_of_ble_eq_true rfl, Nat.le_of_ble_eq_true rfl⟩) hP hD hS (wM_map ..) (fun H locs hP hD hS => ?_)
        have hP : va_P G.1 vwCl (wM G m σ V σ ns x len B) H := hP
        have hD : va_D (zA (wM G m σ V ζ ns x len B)) (wM G m σ V σ ns x len B) := hD
        refine lv_aload_n hx hb dX5_set_34 rfl (lv_at hl 0 rfl) ?_
        refine va_get (D := G.1) (ci := 5) (v := .ref (m 1)) (C := RX5) (T := TX5) (N := 7) hx hb hts hinX5 hown hG.1 hP 0 rfl rfl 0 (by decide) hf7 (fun _ h9 => h9) rfl dX5_set_35 ?_
        refine lv_iconst (v := nI 2) hx hb dX5_set_38 (by decide) ?_
        refine lv_iload_n hx hb dX5_set_39 rfl (lv_at hl 1 rfl) ?_
        refine lv_iadd hx hb dX5_set_40 ?_
        refine lv_topi (nm_r (e' := nI (2 + 1)) (nI_add _ _) ?_)
        refine va_iald hx hb hG.1 hP 1 0 rfl rfl (vp_in_nI (n := 2 + 1) (N := 1972) (by omega) (by omega)) dX5_set_41 ?_
        refine lv_topi (nm_r (e' := nI (σ (2 + 1))) (by rw [nI_clamp (by omega)]; exact sF_n (by omega)) ?_)
        refine lv_istore_n (lv' := [(3, .int (nI (σ (2 + 1)))), (0, .ref (m 0)), (1, .int (nI 1)), (2, .int (nI v))]) hx hb dX5_set_42 rfl hl (by decide) rfl (fun ls hl => ?_)
        refine lv_aload_n hx hb dX5_set_43 rfl (lv_at hl 1 rfl) ?_
        refine va_get (D := G.1) (ci := 5) (v := .ref (m 1)) (C := RX5) (T := TX5) (N := 7) hx hb hts hinX5 hown hG.1 hP 0 rfl rfl 0 (by decide) hf7 (fun _ h9 => h9) rfl dX5_set_44 ?_
        refine lv_iconst (v := nI 2) hx hb dX5_set_47 (by decide) ?_
        refine lv_iload_n hx hb dX5_set_48 rfl (lv_at hl 2 rfl) ?_
        refine lv_iadd hx hb dX5_set_49 ?_
        refine lv_topi (nm_r (e' := nI (2 + 1)) (nI_add _ _) ?_)
        refine lv_iload_n hx hb dX5_set_50 rfl (lv_at hl 3 rfl) ?_
        refine va_iast hx hb hG.1 hP hD hS 1 0 rfl rfl (vp_in_nI (n := 2 + 1) (N := 1972) (by omega) (by omega)) dX5_set_51 (fun H locs hP hD hS => ?_)
        rw [nI_clamp (show 2 + 1 < 2 ^ 31 by omega)] at hP hD
        rw [sF_su (by omega)] at hP hD
        have hP : va_P G.1 vwCl (wM G m (su σ (2 + 1) v) V σ ns x len B) H := hP
        have hD : va_D (zA (wM G m σ V ζ ns x len B)) (wM G m (su σ (2 + 1) v) V σ ns x len B) := hD
        refine lv_aload_n hx hb dX5_set_52 rfl (lv_at hl 1 rfl) ?_
        refine lv_iload_n hx hb dX5_set_53 rfl (lv_at hl 0 rfl) ?_
        refine zwrW (G := G) (wc := (wM G m (su σ (2 + 1) v) V σ ns x len B)) (wc' := (wM G m (su σ (2 + 1) v) (updv V ns σ) σ (nN ns) x len B)) (va_runV (As := [.int (nI (σ (2 + 1)))]) (rest := []) ⟨hx, hb, hml, hown, hts⟩ (kX5_records l G m (su σ (2 + 1) v) V σ ns x len B (nI (σ (2 + 1))) (by omega) (zD_any hD)) (cwV 1 hts gX5_set_X5_records rfl rfl rfl (by decide +kernel) ⟨Nat.le_of_ble_eq_true rfl, Nat.le_of_ble_eq_true rfl⟩) (zPreV hG (va_recv (q0 := 0) (ci := 5) hG.1 hP rfl rfl) (hP)) rfl rfl hl.1 rfl (lv_room (Nat.le_of_ble_eq_true rfl)) dX5_set_54 ⟨Nat.le_of_ble_eq_true rfl, Nat.le_of_ble_eq_true rfl⟩) hP hD hS (wM_map ..) (fun H locs hP hD hS => ?_)
        have hP : va_P G.1 vwCl (wM G m (su σ (2 + 1) v) (updv V ns σ) σ (nN ns) x len B) H := hP
        have hD : va_D (zA (wM G m σ V ζ ns x len B)) (wM G m (su σ (2 + 1) v) (updv V ns σ) σ (nN ns) x len B) := hD
        exact hret _ _ _ _ _ dX5_set_57 hS (hP) (rfl)
      · skip
        have h25 : ¬ ((nI 0) ≤ (nI v) ∧ (nI v) ≤ (nI 1000)) := (z_b0).mp h25
        exact absurd hvv h25
    · skip
      have h12 : 1 = 0 := (z_eq0 (by omega)).mp h12
      exfalso; omega
set_option maxHeartbeats 4000000 in
set_option maxRecDepth 100000 in
theorem kX5_show_inv (l : Launch) (G : zG) (m : Nat → Nat) (σ : Nat → Nat) (V : Nat → Nat → Nat) (ζ : Nat → Nat) (ns : Nat) (x : Nat → Nat) (len : Nat) (B : Nat → Int32) {N : Nat} (x1 : Int32) (x2 : Int32) (x3 : Int32) (x4 : Int32) (hO : Ok N σ) (hns : ns ≤ 4) (hv : ¬ (((0 ≤ x1 ∧ x1 < nI (nS σ)) ∧ (0 ≤ x2 ∧ x2 ≤ 3) ∧ (0 ≤ x3 ∧ x3 ≤ 9)) ∧ (nI 0 ≤ x4 ∧ x4 ≤ nI 9))) (hd : va_D (fun _ => True) (wM G m σ V ζ ns x len B)) : Met l yX5_show wsX5_show (zRm 8 183) (zPc G [.ref (m 0), .int x1, .int x2, .int x3, .int x4] (va_P G.1 vwCl (wM G m σ V ζ ns x len B))) (zQ (zA (wM G m σ V ζ ns x len B)) (some (.int ((-1)))) (va_P G.1 vwCl (wM G m σ V ζ ns x len B))) 0 0 (zA (wM G m σ V ζ ns x len B)) := by
  refine zmkWi (w := (wM G m σ V ζ ns x len B)) hd (cc := cX5_show) (maxL := 6) (by decide) rfl (Nat.le_of_ble_eq_true rfl) ?_
  intro pr en st mi ar bl me cd ls Q hx hb hml hown hts hG hP hl hD hS hret
  have hown : st.vm.findClass RX5 = some mi.cls := hown
  have hl : lv_has ls 6 [(0, .ref (m 0)), (1, .int x1), (2, .int x2), (3, .int x3), (4, .int x4)] := hl
  have hP : va_P G.1 vwCl (wM G m σ V ζ ns x len B) st.heap := hP
  have hD : va_D (zA (wM G m σ V ζ ns x len B)) (wM G m σ V ζ ns x len B) := hD
  have hc := hO.c
  have hs := hO.lS
  have hr := hO.lR
  have hne := hO.lE
  refine lv_aload_n hx hb dX5_show_0 rfl (lv_at hl 0 rfl) ?_
  refine lv_iload_n hx hb dX5_show_1 rfl (lv_at hl 1 rfl) ?_
  refine lv_iload_n hx hb dX5_show_2 rfl (lv_at hl 2 rfl) ?_
  refine lv_iload_n hx hb dX5_show_3 rfl (lv_at hl 3 rfl) ?_
  refine zrdV (As := [.int x1, .int x2, .int x3]) ⟨hx, hb, hml, hown, hts⟩ (kX5_isPlace l G m σ V ζ ns x len B x1 x2 x3) (cwV 3 hts gX5_show_X5_isPlace rfl rfl rfl (by decide +kernel) ⟨Nat.le_of_ble_eq_true rfl, Nat.le_of_ble_eq_true rfl⟩) hG (va_recv (q0 := 0) (ci := 5) hG.1 hP rfl rfl) (hP) rfl rfl hl.1 dX5_show_4 (Nat.le_of_ble_eq_true rfl) ⟨Nat.le_of_ble_eq_true rfl, Nat.le_of_ble_eq_true rfl⟩ ?_
  refine lv_if_eq (tgt := 21) hx hb dX5_show_7 (by decide) (fun h7 => ?_) (fun h7 => ?_)
  · skip
    have h7 : ¬ ((0 ≤ x1 ∧ x1 < nI (nS σ)) ∧ (nI 0 ≤ x2 ∧ x2 ≤ nI 3) ∧ (nI 0 ≤ x3 ∧ x3 ≤ nI 9)) := (z_b0).mp h7
    refine lv_iconst (v := (-1)) hx hb dX5_show_21 (by decide) ?_
    exact hret _ _ _ _ _ dX5_show_22 hS (hP) (rfl)
  · skip
    have h7 : ¬ (¬ ((0 ≤ x1 ∧ x1 < nI (nS σ)) ∧ (nI 0 ≤ x2 ∧ x2 ≤ nI 3) ∧ (nI 0 ≤ x3 ∧ x3 ≤ nI 9))) := fun q => h7 ((z_b0).mpr q)
    have h7 : (0 ≤ x1 ∧ x1 < nI (nS σ)) ∧ (nI 0 ≤ x2 ∧ x2 ≤ nI 3) ∧ (nI 0 ≤ x3 ∧ x3 ≤ nI 9) := Decidable.of_not_not h7
    refine lv_iload hx hb dX5_show_10 (lv_at hl 4 rfl) ?_
    refine lv_iconst (v := nI 0) hx hb dX5_show_12 (by decide) ?_
    refine lv_bipush (v := nI 9) hx hb dX5_show_13 (by decide) ?_
    refine zrdS (As := [.int x4, .int (nI 0), .int (nI 9)]) ⟨hx, hb, hml, hown, hts⟩ (kX5_in l G  x4 (nI 0) (nI 9)) (va_cwS 3 hts gX5_show_X5_in rfl rfl rfl (by decide +kernel) ⟨Nat.le_of_ble_eq_true rfl, Nat.le_of_ble_eq_true rfl⟩) hG (trivial) rfl rfl hl.1 dX5_show_15 (Nat.le_of_ble_eq_true rfl) ⟨Nat.le_of_ble_eq_true rfl, Nat.le_of_ble_eq_true rfl⟩ ?_
    refine lv_if_ne (tgt := 23) hx hb dX5_show_18 (by decide) (fun h18 => ?_) (fun h18 => ?_)
    · skip
      have h18 : ¬ (¬ ((nI 0) ≤ x4 ∧ x4 ≤ (nI 9))) := fun q => h18 ((z_b0).mpr q)
      have h18 : (nI 0) ≤ x4 ∧ x4 ≤ (nI 9) := Decidable.of_not_not h18
      exact absurd ⟨h7, h18⟩ hv
    · skip
      have h18 : ¬ ((nI 0) ≤ x4 ∧ x4 ≤ (nI 9)) := (z_b0).mp h18
      refine lv_iconst (v := (-1)) hx hb dX5_show_21 (by decide) ?_
      exact hret _ _ _ _ _ dX5_show_22 hS (hP) (rfl)
set_option maxHeartbeats 4000000 in
set_option maxRecDepth 100000 in
theorem kX5_show_ok (l : Launch) (G : zG) (m : Nat → Nat) (σ : Nat → Nat) (V : Nat → Nat → Nat) (ζ : Nat → Nat) (ns : Nat) (x : Nat → Nat) (len : Nat) (B : Nat → Int32) {N : Nat} (k : Nat) (d : Nat) (p : Nat) (v : Nat) (hO : Ok N σ) (hns : ns ≤ 4) (hk : k < nS σ) (hd4 : d < 4) (hp : p < 10) (hv9 : v < 10) (hg : ¬ ((su σ (64 + 53 * k + (10 * d + p)) v) 2 ≠ 0 ∧ 0 < brA (su σ (64 + 53 * k + (10 * d + p)) v) (nE (su σ (64 + 53 * k + (10 * d + p)) v)))) (hd : va_D (fun _ => True) (wM G m σ V ζ ns x len B)) : Met l yX5_show wsX5_show (zRm 8 183) (zPc G [.ref (m 0), .int (nI k), .int (nI d), .int (nI p), .int (nI v)] (va_P G.1 vwCl (wM G m σ V ζ ns x len B))) (zQ (zA (wM G m σ V ζ ns x len B)) (some (.int (nI (sgn σ k d p)))) (va_P G.1 vwCl (wM G m (su (grs (su σ (64 + 53 * k + (10 * d + p)) v) (nE (su σ (64 + 53 * k + (10 * d + p)) v))) (114 + 53 * k) (rvn (grs (su σ (64 + 53 * k + (10 * d + p)) v) (nE (su σ (64 + 53 * k + (10 * d + p)) v))) k + 1)) (updv V ns σ) σ (nN ns) x len B))) 0 0 (zA (wM G m σ V ζ ns x len B)) := by
  refine zmkWi (w := (wM G m σ V ζ ns x len B)) hd (cc := cX5_show) (maxL := 6) (by decide) rfl (Nat.le_of_ble_eq_true rfl) ?_
  intro pr en st mi ar bl me cd ls Q hx hb hml hown hts hG hP hl hD hS hret
  have hown : st.vm.findClass RX5 = some mi.cls := hown
  have hl : lv_has ls 6 [(0, .ref (m 0)), (1, .int (nI k)), (2, .int (nI d)), (3, .int (nI p)), (4, .int (nI v))] := hl
  have hP : va_P G.1 vwCl (wM G m σ V ζ ns x len B) st.heap := hP
  have hD : va_D (zA (wM G m σ V ζ ns x len B)) (wM G m σ V ζ ns x len B) := hD
  have hc := hO.c
  have hs := hO.lS
  have hr := hO.lR
  have hne := hO.lE
  have hvp : (0 ≤ nI k ∧ nI k < nI (nS σ)) ∧ (0 ≤ nI d ∧ nI d ≤ 3) ∧ (0 ≤ nI p ∧ nI p ≤ 9) := ⟨z_in hk (by omega), z_lem (m := 3) (by omega) (by omega), z_lem (m := 9) (by omega) (by omega)⟩
  have hvd : nI 0 ≤ nI v ∧ nI v ≤ nI 9 := z_lem (by omega) (by omega)
  refine lv_aload_n hx hb dX5_show_0 rfl (lv_at hl 0 rfl) ?_
  refine lv_iload_n hx hb dX5_show_1 rfl (lv_at hl 1 rfl) ?_
  refine lv_iload_n hx hb dX5_show_2 rfl (lv_at hl 2 rfl) ?_
  refine lv_iload_n hx hb dX5_show_3 rfl (lv_at hl 3 rfl) ?_
  refine zrdV (As := [.int (nI k), .int (nI d), .int (nI p)]) ⟨hx, hb, hml, hown, hts⟩ (kX5_isPlace l G m σ V ζ ns x len B (nI k) (nI d) (nI p)) (cwV 3 hts gX5_show_X5_isPlace rfl rfl rfl (by decide +kernel) ⟨Nat.le_of_ble_eq_true rfl, Nat.le_of_ble_eq_true rfl⟩) hG (va_recv (q0 := 0) (ci := 5) hG.1 hP rfl rfl) (hP) rfl rfl hl.1 dX5_show_4 (Nat.le_of_ble_eq_true rfl) ⟨Nat.le_of_ble_eq_true rfl, Nat.le_of_ble_eq_true rfl⟩ ?_
  refine lv_if_eq (tgt := 21) hx hb dX5_show_7 (by decide) (fun h7 => ?_) (fun h7 => ?_)
  · skip
    have h7 : ¬ ((0 ≤ (nI k) ∧ (nI k) < nI (nS σ)) ∧ (nI 0 ≤ (nI d) ∧ (nI d) ≤ nI 3) ∧ (nI 0 ≤ (nI p) ∧ (nI p) ≤ nI 9)) := (z_b0).mp h7
    exact absurd hvp h7
  · skip
    have h7 : ¬ (¬ ((0 ≤ (nI k) ∧ (nI k) < nI (nS σ)) ∧ (nI 0 ≤ (nI d) ∧ (nI d) ≤ nI 3) ∧ (nI 0 ≤ (nI p) ∧ (nI p) ≤ nI 9))) := fun q => h7 ((z_b0).mpr q)
    have h7 : (0 ≤ (nI k) ∧ (nI k) < nI (nS σ)) ∧ (nI 0 ≤ (nI d) ∧ (nI d) ≤ nI 3) ∧ (nI 0 ≤ (nI p) ∧ (nI p) ≤ nI 9) := Decidable.of_not_not h7
    refine lv_iload hx hb dX5_show_10 (lv_at hl 4 rfl) ?_
    refine lv_iconst (v := nI 0) hx hb dX5_show_12 (by decide) ?_
    refine lv_bipush (v := nI 9) hx hb dX5_show_13 (by decide) ?_
    refine zrdS (As := [.int (nI v), .int (nI 0), .int (nI 9)]) ⟨hx, hb, hml, hown, hts⟩ (kX5_in l G  (nI v) (nI 0) (nI 9)) (va_cwS 3 hts gX5_show_X5_in rfl rfl rfl (by decide +kernel) ⟨Nat.le_of_ble_eq_true rfl, Nat.le_of_ble_eq_true rfl⟩) hG (trivial) rfl rfl hl.1 dX5_show_15 (Nat.le_of_ble_eq_true rfl) ⟨Nat.le_of_ble_eq_true rfl, Nat.le_of_ble_eq_true rfl⟩ ?_
    refine lv_if_ne (tgt := 23) hx hb dX5_show_18 (by decide) (fun h18 => ?_) (fun h18 => ?_)
    · skip
      have h18 : ¬ (¬ ((nI 0) ≤ (nI v) ∧ (nI v) ≤ (nI 9))) := fun q => h18 ((z_b0).mpr q)
      have h18 : (nI 0) ≤ (nI v) ∧ (nI v) ≤ (nI 9) := Decidable.of_not_not h18
      refine lv_aload_n hx hb dX5_show_23 rfl (lv_at hl 0 rfl) ?_
      refine zwrWv (G := G) (wc := (wM G m σ V ζ ns x len B)) (wc' := (wM G m σ V σ ns x len B)) (va_runV (As := []) (rest := []) ⟨hx, hb, hml, hown, hts⟩ (kX5_hold l G m σ V ζ ns x len B (zD_any hD)) (cwV 0 hts gX5_show_X5_hold rfl rfl rfl (by decide +kernel) ⟨Nat.le_of_ble_eq_true rfl, Nat.le_of_ble_eq_true rfl⟩) (zPreV hG (va_recv (q0 := 0) (ci := 5) hG.1 hP rfl rfl) (hP)) rfl rfl hl.1 rfl (lv_room (Nat.le_of_ble_eq_true rfl)) dX5_show_24 ⟨Nat.le_of_ble_eq_true rfl, Nat.le_of_ble_eq_true rfl⟩) hP hD hS (wM_map ..) (fun H locs hP hD hS => ?_)
      have hP : va_P G.1 vwCl (wM G m σ V σ ns x len B) H := hP
      have hD : va_D (zA (wM G m σ V ζ ns x len B)) (wM G m σ V σ ns x len B) := hD
      refine lv_aload_n hx hb dX5_show_27 rfl (lv_at hl 0 rfl) ?_
      refine lv_iload_n hx hb dX5_show_28 rfl (lv_at hl 1 rfl) ?_
      refine lv_iload_n hx hb dX5_show_29 rfl (lv_at hl 2 rfl) ?_
      refine lv_iload_n hx hb dX5_show_30 rfl (lv_at hl 3 rfl) ?_
      refine zrdV (As := [.int (nI k), .int (nI d), .int (nI p)]) ⟨hx, hb, hml, hown, hts⟩ (kX5_signAt l G m σ V σ ns x len B k d p (by omega) (by omega) (by omega)) (cwV 3 hts gX5_show_X5_signAt rfl rfl rfl (by decide +kernel) ⟨Nat.le_of_ble_eq_true rfl, Nat.le_of_ble_eq_true rfl⟩) hG (va_recv (q0 := 0) (ci := 5) hG.1 hP rfl rfl) (hP) rfl rfl hl.1 dX5_show_31 (Nat.le_of_ble_eq_true rfl) ⟨Nat.le_of_ble_eq_true rfl, Nat.le_of_ble_eq_true rfl⟩ ?_
      refine lv_istore (lv' := [(5, .int (nI (sgn σ k d p))), (0, .ref (m 0)), (1, .int (nI k)), (2, .int (nI d)), (3, .int (nI p)), (4, .int (nI v))]) hx hb dX5_show_34 hl (by decide) rfl (fun ls hl => ?_)
      refine lv_aload_n hx hb dX5_show_36 rfl (lv_at hl 1 rfl) ?_
      refine lv_iload_n hx hb dX5_show_37 rfl (lv_at hl 2 rfl) ?_
      refine lv_bipush (v := nI 10) hx hb dX5_show_38 (by decide) ?_
      refine lv_iload_n hx hb dX5_show_40 rfl (lv_at hl 3 rfl) ?_
      refine lv_imul hx hb dX5_show_41 ?_
      refine lv_topi (nm_r (e' := nI (10 * d)) (pk_mul _ _) ?_)
      refine lv_iload_n hx hb dX5_show_42 rfl (lv_at hl 4 rfl) ?_
      refine lv_iadd hx hb dX5_show_43 ?_
      refine lv_topi (nm_r (e' := nI ((10 * d) + p)) (nI_add _ _) ?_)
      refine lv_iload hx hb dX5_show_44 (lv_at hl 5 rfl) ?_
      refine zwrWv (G := G) (wc := (wM G m σ V σ ns x len B)) (wc' := (wM G m (su σ (64 + 53 * k + ((10 * d) + p)) v) V σ ns x len B)) (va_runV (As := [.int (nI k), .int (nI ((10 * d) + p)), .int (nI v)]) (rest := []) ⟨hx, hb, hml, hown, hts⟩ (kX5_puts l G m σ V σ ns x len B k ((10 * d) + p) v (by omega) (by omega) (by omega) (zD_any hD)) (cwV 3 hts gX5_show_X5_puts rfl rfl rfl (by decide +kernel) ⟨Nat.le_of_ble_eq_true rfl, Nat.le_of_ble_eq_true rfl⟩) (zPreV hG (va_recv (q0 := 0) (ci := 5) hG.1 hP rfl rfl) (hP)) rfl rfl hl.1 rfl (lv_room (Nat.le_of_ble_eq_true rfl)) dX5_show_46 ⟨Nat.le_of_ble_eq_true rfl, Nat.le_of_ble_eq_true rfl⟩) hP hD hS (wM_map ..) (fun H locs hP hD hS => ?_)
      have hP : va_P G.1 vwCl (wM G m (su σ (64 + 53 * k + ((10 * d) + p)) v) V σ ns x len B) H := hP
      have hD : va_D (zA (wM G m σ V ζ ns x len B)) (wM G m (su σ (64 + 53 * k + ((10 * d) + p)) v) V σ ns x len B) := hD
      refine lv_aload_n hx hb dX5_show_49 rfl (lv_at hl 1 rfl) ?_
      refine lv_iload_n hx hb dX5_show_50 rfl (lv_at hl 2 rfl) ?_
      refine lv_iconst (v := nI 1) hx hb dX5_show_51 (by decide) ?_
      refine lv_iload hx hb dX5_show_52 (lv_at hl 0 rfl) ?_
      refine zwrW (G := G) (wc := (wM G m (su σ (64 + 53 * k + ((10 * d) + p)) v) V σ ns x len B)) (wc' := (wM G m (su (grs (su σ (64 + 53 * k + ((10 * d) + p)) v) (nE (su σ (64 + 53 * k + ((10 * d) + p)) v))) (114 + 53 * k) (rvn (grs (su σ (64 + 53 * k + ((10 * d) + p)) v) (nE (su σ (64 + 53 * k + ((10 * d) + p)) v))) k + 1)) (updv V ns σ) σ (nN ns) x len B)) (va_runV (As := [.int (nI k), .int (nI 1), .int (nI (sgn σ k d p))]) (rest := []) ⟨hx, hb, hml, hown, hts⟩ (kX5_keeps_1 l G m (su σ (64 + 53 * k + ((10 * d) + p)) v) V σ ns x len B k (sgn σ k d p) (hO.su_sg (by omega) (by omega)) (by omega) (by omega) (hg) (zD_any hD)) (cwV 3 hts gX5_show_X5_keeps rfl rfl rfl (by decide +kernel) ⟨Nat.le_of_ble_eq_true rfl, Nat.le_of_ble_eq_true rfl⟩) (zPreV hG (va_recv (q0 := 0) (ci := 5) hG.1 hP rfl rfl) (hP)) rfl rfl hl.1 rfl (lv_room (Nat.le_of_ble_eq_true rfl)) dX5_show_54 ⟨Nat.le_of_ble_eq_true rfl, Nat.le_of_ble_eq_true rfl⟩) hP hD hS (wM_map ..) (fun H locs hP hD hS => ?_)
      have hP : va_P G.1 vwCl (wM G m (su (grs (su σ (64 + 53 * k + ((10 * d) + p)) v) (nE (su σ (64 + 53 * k + ((10 * d) + p)) v))) (114 + 53 * k) (rvn (grs (su σ (64 + 53 * k + ((10 * d) + p)) v) (nE (su σ (64 + 53 * k + ((10 * d) + p)) v))) k + 1)) (updv V ns σ) σ (nN ns) x len B) H := hP
      have hD : va_D (zA (wM G m σ V ζ ns x len B)) (wM G m (su (grs (su σ (64 + 53 * k + ((10 * d) + p)) v) (nE (su σ (64 + 53 * k + ((10 * d) + p)) v))) (114 + 53 * k) (rvn (grs (su σ (64 + 53 * k + ((10 * d) + p)) v) (nE (su σ (64 + 53 * k + ((10 * d) + p)) v))) k + 1)) (updv V ns σ) σ (nN ns) x len B) := hD
      exact hret _ _ _ _ _ dX5_show_57 hS (hP) (congrArg nI (rfl))
    · skip
      have h18 : ¬ ((nI 0) ≤ (nI v) ∧ (nI v) ≤ (nI 9)) := (z_b0).mp h18
      exact absurd hvd h18
set_option maxHeartbeats 4000000 in
set_option maxRecDepth 100000 in
theorem kX5_show_no (l : Launch) (G : zG) (m : Nat → Nat) (σ : Nat → Nat) (V : Nat → Nat → Nat) (ζ : Nat → Nat) (ns : Nat) (x : Nat → Nat) (len : Nat) (B : Nat → Int32) {N : Nat} (k : Nat) (d : Nat) (p : Nat) (v : Nat) (hO : Ok N σ) (hns : ns ≤ 4) (hk : k < nS σ) (hd4 : d < 4) (hp : p < 10) (hv9 : v < 10) (hg : (su σ (64 + 53 * k + (10 * d + p)) v) 2 ≠ 0 ∧ 0 < brA (su σ (64 + 53 * k + (10 * d + p)) v) (nE (su σ (64 + 53 * k + (10 * d + p)) v))) (hd : va_D (fun _ => True) (wM G m σ V ζ ns x len B)) : Met l yX5_show wsX5_show (zRm 8 183) (zPc G [.ref (m 0), .int (nI k), .int (nI d), .int (nI p), .int (nI v)] (va_P G.1 vwCl (wM G m σ V ζ ns x len B))) (zQ (zA (wM G m σ V ζ ns x len B)) (some (.int ((-2)))) (va_P G.1 vwCl (wM G m σ V σ ns x len B))) 0 0 (zA (wM G m σ V ζ ns x len B)) := by
  refine zmkWi (w := (wM G m σ V ζ ns x len B)) hd (cc := cX5_show) (maxL := 6) (by decide) rfl (Nat.le_of_ble_eq_true rfl) ?_
  intro pr en st mi ar bl me cd ls Q hx hb hml hown hts hG hP hl hD hS hret
  have hown : st.vm.findClass RX5 = some mi.cls := hown
  have hl : lv_has ls 6 [(0, .ref (m 0)), (1, .int (nI k)), (2, .int (nI d)), (3, .int (nI p)), (4, .int (nI v))] := hl
  have hP : va_P G.1 vwCl (wM G m σ V ζ ns x len B) st.heap := hP
  have hD : va_D (zA (wM G m σ V ζ ns x len B)) (wM G m σ V ζ ns x len B) := hD
  have hc := hO.c
  have hs := hO.lS
  have hr := hO.lR
  have hne := hO.lE
  have hvp : (0 ≤ nI k ∧ nI k < nI (nS σ)) ∧ (0 ≤ nI d ∧ nI d ≤ 3) ∧ (0 ≤ nI p ∧ nI p ≤ 9) := ⟨z_in hk (by omega), z_lem (m := 3) (by omega) (by omega), z_lem (m := 9) (by omega) (by omega)⟩
  have hvd : nI 0 ≤ nI v ∧ nI v ≤ nI 9 := z_lem (by omega) (by omega)
  refine lv_aload_n hx hb dX5_show_0 rfl (lv_at hl 0 rfl) ?_
  refine lv_iload_n hx hb dX5_show_1 rfl (lv_at hl 1 rfl) ?_
  refine lv_iload_n hx hb dX5_show_2 rfl (lv_at hl 2 rfl) ?_
  refine lv_iload_n hx hb dX5_show_3 rfl (lv_at hl 3 rfl) ?_
  refine zrdV (As := [.int (nI k), .int (nI d), .int (nI p)]) ⟨hx, hb, hml, hown, hts⟩ (kX5_isPlace l G m σ V ζ ns x len B (nI k) (nI d) (nI p)) (cwV 3 hts gX5_show_X5_isPlace rfl rfl rfl (by decide +kernel) ⟨Nat.le_of_ble_eq_true rfl, Nat.le_of_ble_eq_true rfl⟩) hG (va_recv (q0 := 0) (ci := 5) hG.1 hP rfl rfl) (hP) rfl rfl hl.1 dX5_show_4 (Nat.le_of_ble_eq_true rfl) ⟨Nat.le_of_ble_eq_true rfl, Nat.le_of_ble_eq_true rfl⟩ ?_
  refine lv_if_eq (tgt := 21) hx hb dX5_show_7 (by decide) (fun h7 => ?_) (fun h7 => ?_)
  · skip
    have h7 : ¬ ((0 ≤ (nI k) ∧ (nI k) < nI (nS σ)) ∧ (nI 0 ≤ (nI d) ∧ (nI d) ≤ nI 3) ∧ (nI 0 ≤ (nI p) ∧ (nI p) ≤ nI 9)) := (z_b0).mp h7
    exact absurd hvp h7
  · skip
    have h7 : ¬ (¬ ((0 ≤ (nI k) ∧ (nI k) < nI (nS σ)) ∧ (nI 0 ≤ (nI d) ∧ (nI d) ≤ nI 3) ∧ (nI 0 ≤ (nI p) ∧ (nI p) ≤ nI 9))) := fun q => h7 ((z_b0).mpr q)
    have h7 : (0 ≤ (nI k) ∧ (nI k) < nI (nS σ)) ∧ (nI 0 ≤ (nI d) ∧ (nI d) ≤ nI 3) ∧ (nI 0 ≤ (nI p) ∧ (nI p) ≤ nI 9) := Decidable.of_not_not h7
    refine lv_iload hx hb dX5_show_10 (lv_at hl 4 rfl) ?_
    refine lv_iconst (v := nI 0) hx hb dX5_show_12 (by decide) ?_
    refine lv_bipush (v := nI 9) hx hb dX5_show_13 (by decide) ?_
    refine zrdS (As := [.int (nI v), .int (nI 0), .int (nI 9)]) ⟨hx, hb, hml, hown, hts⟩ (kX5_in l G  (nI v) (nI 0) (nI 9)) (va_cwS 3 hts gX5_show_X5_in rfl rfl rfl (by decide +kernel) ⟨Nat.le_of_ble_eq_true rfl, Nat.le_of_ble_eq_true rfl⟩) hG (trivial) rfl rfl hl.1 dX5_show_15 (Nat.le_of_ble_eq_true rfl) ⟨Nat.le_of_ble_eq_true rfl, Nat.le_of_ble_eq_true rfl⟩ ?_
    refine lv_if_ne (tgt := 23) hx hb dX5_show_18 (by decide) (fun h18 => ?_) (fun h18 => ?_)
    · skip
      have h18 : ¬ (¬ ((nI 0) ≤ (nI v) ∧ (nI v) ≤ (nI 9))) := fun q => h18 ((z_b0).mpr q)
      have h18 : (nI 0) ≤ (nI v) ∧ (nI v) ≤ (nI 9) := Decidable.of_not_not h18
      refine lv_aload_n hx hb dX5_show_23 rfl (lv_at hl 0 rfl) ?_
      refine zwrWv (G := G) (wc := (wM G m σ V ζ ns x len B)) (wc' := (wM G m σ V σ ns x len B)) (va_runV (As := []) (rest := []) ⟨hx, hb, hml, hown, hts⟩ (kX5_hold l G m σ V ζ ns x len B (zD_any hD)) (cwV 0 hts gX5_show_X5_hold rfl rfl rfl (by decide +kernel) ⟨Nat.le_of_ble_eq_true rfl, Nat.le_of_ble_eq_true rfl⟩) (zPreV hG (va_recv (q0 := 0) (ci := 5) hG.1 hP rfl rfl) (hP)) rfl rfl hl.1 rfl (lv_room (Nat.le_of_ble_eq_true rfl)) dX5_show_24 ⟨Nat.le_of_ble_eq_true rfl, Nat.le_of_ble_eq_true rfl⟩) hP hD hS (wM_map ..) (fun H locs hP hD hS => ?_)
      have hP : va_P G.1 vwCl (wM G m σ V σ ns x len B) H := hP
      have hD : va_D (zA (wM G m σ V ζ ns x len B)) (wM G m σ V σ ns x len B) := hD
      refine lv_aload_n hx hb dX5_show_27 rfl (lv_at hl 0 rfl) ?_
      refine lv_iload_n hx hb dX5_show_28 rfl (lv_at hl 1 rfl) ?_
      refine lv_iload_n hx hb dX5_show_29 rfl (lv_at hl 2 rfl) ?_
      refine lv_iload_n hx hb dX5_show_30 rfl (lv_at hl 3 rfl) ?_
      refine zrdV (As := [.int (nI k), .int (nI d), .int (nI p)]) ⟨hx, hb, hml, hown, hts⟩ (kX5_signAt l G m σ V σ ns x len B k d p (by omega) (by omega) (by omega)) (cwV 3 hts gX5_show_X5_signAt rfl rfl rfl (by decide +kernel) ⟨Nat.le_of_ble_eq_true rfl, Nat.le_of_ble_eq_true rfl⟩) hG (va_recv (q0 := 0) (ci := 5) hG.1 hP rfl rfl) (hP) rfl rfl hl.1 dX5_show_31 (Nat.le_of_ble_eq_true rfl) ⟨Nat.le_of_ble_eq_true rfl, Nat.le_of_ble_eq_true rfl⟩ ?_
      refine lv_istore (lv' := [(5, .int (nI (sgn σ k d p))), (0, .ref (m 0)), (1, .int (nI k)), (2, .int (nI d)), (3, .int (nI p)), (4, .int (nI v))]) hx hb dX5_show_34 hl (by decide) rfl (fun ls hl => ?_)
      refine lv_aload_n hx hb dX5_show_36 rfl (lv_at hl 1 rfl) ?_
      refine lv_iload_n hx hb dX5_show_37 rfl (lv_at hl 2 rfl) ?_
      refine lv_bipush (v := nI 10) hx hb dX5_show_38 (by decide) ?_
      refine lv_iload_n hx hb dX5_show_40 rfl (lv_at hl 3 rfl) ?_
      refine lv_imul hx hb dX5_show_41 ?_
      refine lv_topi (nm_r (e' := nI (10 * d)) (pk_mul _ _) ?_)
      refine lv_iload_n hx hb dX5_show_42 rfl (lv_at hl 4 rfl) ?_
      refine lv_iadd hx hb dX5_show_43 ?_
      refine lv_topi (nm_r (e' := nI ((10 * d) + p)) (nI_add _ _) ?_)
      refine lv_iload hx hb dX5_show_44 (lv_at hl 5 rfl) ?_
      refine zwrWv (G := G) (wc := (wM G m σ V σ ns x len B)) (wc' := (wM G m (su σ (64 + 53 * k + ((10 * d) + p)) v) V σ ns x len B)) (va_runV (As := [.int (nI k), .int (nI ((10 * d) + p)), .int (nI v)]) (rest := []) ⟨hx, hb, hml, hown, hts⟩ (kX5_puts l G m σ V σ ns x len B k ((10 * d) + p) v (by omega) (by omega) (by omega) (zD_any hD)) (cwV 3 hts gX5_show_X5_puts rfl rfl rfl (by decide +kernel) ⟨Nat.le_of_ble_eq_true rfl, Nat.le_of_ble_eq_true rfl⟩) (zPreV hG (va_recv (q0 := 0) (ci := 5) hG.1 hP rfl rfl) (hP)) rfl rfl hl.1 rfl (lv_room (Nat.le_of_ble_eq_true rfl)) dX5_show_46 ⟨Nat.le_of_ble_eq_true rfl, Nat.le_of_ble_eq_true rfl⟩) hP hD hS (wM_map ..) (fun H locs hP hD hS => ?_)
      have hP : va_P G.1 vwCl (wM G m (su σ (64 + 53 * k + ((10 * d) + p)) v) V σ ns x len B) H := hP
      have hD : va_D (zA (wM G m σ V ζ ns x len B)) (wM G m (su σ (64 + 53 * k + ((10 * d) + p)) v) V σ ns x len B) := hD
      refine lv_aload_n hx hb dX5_show_49 rfl (lv_at hl 1 rfl) ?_
      refine lv_iload_n hx hb dX5_show_50 rfl (lv_at hl 2 rfl) ?_
      refine lv_iconst (v := nI 1) hx hb dX5_show_51 (by decide) ?_
      refine lv_iload hx hb dX5_show_52 (lv_at hl 0 rfl) ?_
      refine zwrW (G := G) (wc := (wM G m (su σ (64 + 53 * k + ((10 * d) + p)) v) V σ ns x len B)) (wc' := (wM G m σ V σ ns x len B)) (va_runV (As := [.int (nI k), .int (nI 1), .int (nI (sgn σ k d p))]) (rest := []) ⟨hx, hb, hml, hown, hts⟩ (kX5_keeps_no1 l G m (su σ (64 + 53 * k + ((10 * d) + p)) v) V σ ns x len B k (sgn σ k d p) (hO.su_sg (by omega) (by omega)) (hg) (zD_any hD)) (cwV 3 hts gX5_show_X5_keeps rfl rfl rfl (by decide +kernel) ⟨Nat.le_of_ble_eq_true rfl, Nat.le_of_ble_eq_true rfl⟩) (zPreV hG (va_recv (q0 := 0) (ci := 5) hG.1 hP rfl rfl) (hP)) rfl rfl hl.1 rfl (lv_room (Nat.le_of_ble_eq_true rfl)) dX5_show_54 ⟨Nat.le_of_ble_eq_true rfl, Nat.le_of_ble_eq_true rfl⟩) hP hD hS (wM_map ..) (fun H locs hP hD hS => ?_)
      have hP : va_P G.1 vwCl (wM G m σ V σ ns x len B) H := hP
      have hD : va_D (zA (wM G m σ V ζ ns x len B)) (wM G m σ V σ ns x len B) := hD
      exact hret _ _ _ _ _ dX5_show_57 hS (hP) (rfl)
    · skip
      have h18 : ¬ ((nI 0) ≤ (nI v) ∧ (nI v) ≤ (nI 9)) := (z_b0).mp h18
      exact absurd hvd h18
set_option maxHeartbeats 4000000 in
set_option maxRecDepth 100000 in
theorem kX5_erase_inv (l : Launch) (G : zG) (m : Nat → Nat) (σ : Nat → Nat) (V : Nat → Nat → Nat) (ζ : Nat → Nat) (ns : Nat) (x : Nat → Nat) (len : Nat) (B : Nat → Int32) {N : Nat} (x1 : Int32) (x2 : Int32) (x3 : Int32) (hO : Ok N σ) (hns : ns ≤ 4) (hv : ¬ ((0 ≤ x1 ∧ x1 < nI (nS σ)) ∧ (0 ≤ x2 ∧ x2 ≤ 3) ∧ (0 ≤ x3 ∧ x3 ≤ 9))) (hd : va_D (fun _ => True) (wM G m σ V ζ ns x len B)) : Met l yX5_erase wsX5_erase (zRm 8 183) (zPc G [.ref (m 0), .int x1, .int x2, .int x3] (va_P G.1 vwCl (wM G m σ V ζ ns x len B))) (zQ (zA (wM G m σ V ζ ns x len B)) (some (.int ((-1)))) (va_P G.1 vwCl (wM G m σ V ζ ns x len B))) 0 0 (zA (wM G m σ V ζ ns x len B)) := by
  refine zmkWi (w := (wM G m σ V ζ ns x len B)) hd (cc := cX5_erase) (maxL := 5) (by decide) rfl (Nat.le_of_ble_eq_true rfl) ?_
  intro pr en st mi ar bl me cd ls Q hx hb hml hown hts hG hP hl hD hS hret
  have hown : st.vm.findClass RX5 = some mi.cls := hown
  have hl : lv_has ls 5 [(0, .ref (m 0)), (1, .int x1), (2, .int x2), (3, .int x3)] := hl
  have hP : va_P G.1 vwCl (wM G m σ V ζ ns x len B) st.heap := hP
  have hD : va_D (zA (wM G m σ V ζ ns x len B)) (wM G m σ V ζ ns x len B) := hD
  have hc := hO.c
  have hs := hO.lS
  have hr := hO.lR
  have hne := hO.lE
  refine lv_aload_n hx hb dX5_erase_0 rfl (lv_at hl 0 rfl) ?_
  refine lv_iload_n hx hb dX5_erase_1 rfl (lv_at hl 1 rfl) ?_
  refine lv_iload_n hx hb dX5_erase_2 rfl (lv_at hl 2 rfl) ?_
  refine lv_iload_n hx hb dX5_erase_3 rfl (lv_at hl 3 rfl) ?_
  refine zrdV (As := [.int x1, .int x2, .int x3]) ⟨hx, hb, hml, hown, hts⟩ (kX5_isPlace l G m σ V ζ ns x len B x1 x2 x3) (cwV 3 hts gX5_erase_X5_isPlace rfl rfl rfl (by decide +kernel) ⟨Nat.le_of_ble_eq_true rfl, Nat.le_of_ble_eq_true rfl⟩) hG (va_recv (q0 := 0) (ci := 5) hG.1 hP rfl rfl) (hP) rfl rfl hl.1 dX5_erase_4 (Nat.le_of_ble_eq_true rfl) ⟨Nat.le_of_ble_eq_true rfl, Nat.le_of_ble_eq_true rfl⟩ ?_
  refine lv_if_ne (tgt := 12) hx hb dX5_erase_7 (by decide) (fun h7 => ?_) (fun h7 => ?_)
  · skip
    have h7 : ¬ (¬ ((0 ≤ x1 ∧ x1 < nI (nS σ)) ∧ (nI 0 ≤ x2 ∧ x2 ≤ nI 3) ∧ (nI 0 ≤ x3 ∧ x3 ≤ nI 9))) := fun q => h7 ((z_b0).mpr q)
    have h7 : (0 ≤ x1 ∧ x1 < nI (nS σ)) ∧ (nI 0 ≤ x2 ∧ x2 ≤ nI 3) ∧ (nI 0 ≤ x3 ∧ x3 ≤ nI 9) := Decidable.of_not_not h7
    exact absurd h7 hv
  · skip
    have h7 : ¬ ((0 ≤ x1 ∧ x1 < nI (nS σ)) ∧ (nI 0 ≤ x2 ∧ x2 ≤ nI 3) ∧ (nI 0 ≤ x3 ∧ x3 ≤ nI 9)) := (z_b0).mp h7
    refine lv_iconst (v := (-1)) hx hb dX5_erase_10 (by decide) ?_
    exact hret _ _ _ _ _ dX5_erase_11 hS (hP) (rfl)
set_option maxHeartbeats 4000000 in
set_option maxRecDepth 100000 in
theorem kX5_erase_none (l : Launch) (G : zG) (m : Nat → Nat) (σ : Nat → Nat) (V : Nat → Nat → Nat) (ζ : Nat → Nat) (ns : Nat) (x : Nat → Nat) (len : Nat) (B : Nat → Int32) {N : Nat} (k : Nat) (d : Nat) (p : Nat) (hO : Ok N σ) (hns : ns ≤ 4) (hk : k < nS σ) (hd4 : d < 4) (hp : p < 10) (h10s : sgn σ k d p = 10) (hd : va_D (fun _ => True) (wM G m σ V ζ ns x len B)) : Met l yX5_erase wsX5_erase (zRm 8 183) (zPc G [.ref (m 0), .int (nI k), .int (nI d), .int (nI p)] (va_P G.1 vwCl (wM G m σ V ζ ns x len B))) (zQ (zA (wM G m σ V ζ ns x len B)) (some (.int ((-2)))) (va_P G.1 vwCl (wM G m σ V ζ ns x len B))) 0 0 (zA (wM G m σ V ζ ns x len B)) := by
  refine zmkWi (w := (wM G m σ V ζ ns x len B)) hd (cc := cX5_erase) (maxL := 5) (by decide) rfl (Nat.le_of_ble_eq_true rfl) ?_
  intro pr en st mi ar bl me cd ls Q hx hb hml hown hts hG hP hl hD hS hret
  have hown : st.vm.findClass RX5 = some mi.cls := hown
  have hl : lv_has ls 5 [(0, .ref (m 0)), (1, .int (nI k)), (2, .int (nI d)), (3, .int (nI p))] := hl
  have hP : va_P G.1 vwCl (wM G m σ V ζ ns x len B) st.heap := hP
  have hD : va_D (zA (wM G m σ V ζ ns x len B)) (wM G m σ V ζ ns x len B) := hD
  have hc := hO.c
  have hs := hO.lS
  have hr := hO.lR
  have hne := hO.lE
  have hvp : (0 ≤ nI k ∧ nI k < nI (nS σ)) ∧ (0 ≤ nI d ∧ nI d ≤ 3) ∧ (0 ≤ nI p ∧ nI p ≤ 9) := ⟨z_in hk (by omega), z_lem (m := 3) (by omega) (by omega), z_lem (m := 9) (by omega) (by omega)⟩
  have hsg := hO.sg (show k < 36 by omega) hd4 hp
  refine lv_aload_n hx hb dX5_erase_0 rfl (lv_at hl 0 rfl) ?_
  refine lv_iload_n hx hb dX5_erase_1 rfl (lv_at hl 1 rfl) ?_
  refine lv_iload_n hx hb dX5_erase_2 rfl (lv_at hl 2 rfl) ?_
  refine lv_iload_n hx hb dX5_erase_3 rfl (lv_at hl 3 rfl) ?_
  refine zrdV (As := [.int (nI k), .int (nI d), .int (nI p)]) ⟨hx, hb, hml, hown, hts⟩ (kX5_isPlace l G m σ V ζ ns x len B (nI k) (nI d) (nI p)) (cwV 3 hts gX5_erase_X5_isPlace rfl rfl rfl (by decide +kernel) ⟨Nat.le_of_ble_eq_true rfl, Nat.le_of_ble_eq_true rfl⟩) hG (va_recv (q0 := 0) (ci := 5) hG.1 hP rfl rfl) (hP) rfl rfl hl.1 dX5_erase_4 (Nat.le_of_ble_eq_true rfl) ⟨Nat.le_of_ble_eq_true rfl, Nat.le_of_ble_eq_true rfl⟩ ?_
  refine lv_if_ne (tgt := 12) hx hb dX5_erase_7 (by decide) (fun h7 => ?_) (fun h7 => ?_)
  · skip
    have h7 : ¬ (¬ ((0 ≤ (nI k) ∧ (nI k) < nI (nS σ)) ∧ (nI 0 ≤ (nI d) ∧ (nI d) ≤ nI 3) ∧ (nI 0 ≤ (nI p) ∧ (nI p) ≤ nI 9))) := fun q => h7 ((z_b0).mpr q)
    have h7 : (0 ≤ (nI k) ∧ (nI k) < nI (nS σ)) ∧ (nI 0 ≤ (nI d) ∧ (nI d) ≤ nI 3) ∧ (nI 0 ≤ (nI p) ∧ (nI p) ≤ nI 9) := Decidable.of_not_not h7
    refine lv_aload_n hx hb dX5_erase_12 rfl (lv_at hl 0 rfl) ?_
    refine lv_iload_n hx hb dX5_erase_13 rfl (lv_at hl 1 rfl) ?_
    refine lv_iload_n hx hb dX5_erase_14 rfl (lv_at hl 2 rfl) ?_
    refine lv_iload_n hx hb dX5_erase_15 rfl (lv_at hl 3 rfl) ?_
    refine zrdV (As := [.int (nI k), .int (nI d), .int (nI p)]) ⟨hx, hb, hml, hown, hts⟩ (kX5_signAt l G m σ V ζ ns x len B k d p (by omega) (by omega) (by omega)) (cwV 3 hts gX5_erase_X5_signAt rfl rfl rfl (by decide +kernel) ⟨Nat.le_of_ble_eq_true rfl, Nat.le_of_ble_eq_true rfl⟩) hG (va_recv (q0 := 0) (ci := 5) hG.1 hP rfl rfl) (hP) rfl rfl hl.1 dX5_erase_16 (Nat.le_of_ble_eq_true rfl) ⟨Nat.le_of_ble_eq_true rfl, Nat.le_of_ble_eq_true rfl⟩ ?_
    refine lv_istore (lv' := [(4, .int (nI (sgn σ k d p))), (0, .ref (m 0)), (1, .int (nI k)), (2, .int (nI d)), (3, .int (nI p))]) hx hb dX5_erase_19 hl (by decide) rfl (fun ls hl => ?_)
    refine lv_iload hx hb dX5_erase_21 (lv_at hl 0 rfl) ?_
    refine lv_bipush (v := nI 10) hx hb dX5_erase_23 (by decide) ?_
    refine lv_icmp_ne (tgt := 31) hx hb dX5_erase_25 (by decide) (fun h25 => ?_) (fun h25 => ?_)
    · skip
      have h25 : ¬ ((sgn σ k d p) = 10) := fun q => h25 ((nI_eq (by omega) (by omega)).mpr q)
      exfalso; omega
    · skip
      have h25 : (sgn σ k d p) = 10 := (nI_eq (by omega) (by omega)).mp h25
      refine lv_bipush (v := (-2)) hx hb dX5_erase_28 (by decide) ?_
      exact hret _ _ _ _ _ dX5_erase_30 hS (hP) (rfl)
  · skip
    have h7 : ¬ ((0 ≤ (nI k) ∧ (nI k) < nI (nS σ)) ∧ (nI 0 ≤ (nI d) ∧ (nI d) ≤ nI 3) ∧ (nI 0 ≤ (nI p) ∧ (nI p) ≤ nI 9)) := (z_b0).mp h7
    exact absurd hvp h7
set_option maxHeartbeats 4000000 in
set_option maxRecDepth 100000 in
theorem kX5_erase_ok (l : Launch) (G : zG) (m : Nat → Nat) (σ : Nat → Nat) (V : Nat → Nat → Nat) (ζ : Nat → Nat) (ns : Nat) (x : Nat → Nat) (len : Nat) (B : Nat → Int32) {N : Nat} (k : Nat) (d : Nat) (p : Nat) (hO : Ok N σ) (hns : ns ≤ 4) (hk : k < nS σ) (hd4 : d < 4) (hp : p < 10) (h10s : sgn σ k d p ≠ 10) (hg : ¬ ((su σ (64 + 53 * k + (10 * d + p)) 10) 2 ≠ 0 ∧ 0 < brA (su σ (64 + 53 * k + (10 * d + p)) 10) (nE (su σ (64 + 53 * k + (10 * d + p)) 10)))) (hd : va_D (fun _ => True) (wM G m σ V ζ ns x len B)) : Met l yX5_erase wsX5_erase (zRm 8 183) (zPc G [.ref (m 0), .int (nI k), .int (nI d), .int (nI p)] (va_P G.1 vwCl (wM G m σ V ζ ns x len B))) (zQ (zA (wM G m σ V ζ ns x len B)) (some (.int (nI (sgn σ k d p)))) (va_P G.1 vwCl (wM G m (su (grs (su σ (64 + 53 * k + (10 * d + p)) 10) (nE (su σ (64 + 53 * k + (10 * d + p)) 10))) (114 + 53 * k) (rvn (grs (su σ (64 + 53 * k + (10 * d + p)) 10) (nE (su σ (64 + 53 * k + (10 * d + p)) 10))) k + 1)) (updv V ns σ) σ (nN ns) x len B))) 0 0 (zA (wM G m σ V ζ ns x len B)) := by
  refine zmkWi (w := (wM G m σ V ζ ns x len B)) hd (cc := cX5_erase) (maxL := 5) (by decide) rfl (Nat.le_of_ble_eq_true rfl) ?_
  intro pr en st mi ar bl me cd ls Q hx hb hml hown hts hG hP hl hD hS hret
  have hown : st.vm.findClass RX5 = some mi.cls := hown
  have hl : lv_has ls 5 [(0, .ref (m 0)), (1, .int (nI k)), (2, .int (nI d)), (3, .int (nI p))] := hl
  have hP : va_P G.1 vwCl (wM G m σ V ζ ns x len B) st.heap := hP
  have hD : va_D (zA (wM G m σ V ζ ns x len B)) (wM G m σ V ζ ns x len B) := hD
  have hc := hO.c
  have hs := hO.lS
  have hr := hO.lR
  have hne := hO.lE
  have hvp : (0 ≤ nI k ∧ nI k < nI (nS σ)) ∧ (0 ≤ nI d ∧ nI d ≤ 3) ∧ (0 ≤ nI p ∧ nI p ≤ 9) := ⟨z_in hk (by omega), z_lem (m := 3) (by omega) (by omega), z_lem (m := 9) (by omega) (by omega)⟩
  have hsg := hO.sg (show k < 36 by omega) hd4 hp
  refine lv_aload_n hx hb dX5_erase_0 rfl (lv_at hl 0 rfl) ?_
  refine lv_iload_n hx hb dX5_erase_1 rfl (lv_at hl 1 rfl) ?_
  refine lv_iload_n hx hb dX5_erase_2 rfl (lv_at hl 2 rfl) ?_
  refine lv_iload_n hx hb dX5_erase_3 rfl (lv_at hl 3 rfl) ?_
  refine zrdV (As := [.int (nI k), .int (nI d), .int (nI p)]) ⟨hx, hb, hml, hown, hts⟩ (kX5_isPlace l G m σ V ζ ns x len B (nI k) (nI d) (nI p)) (cwV 3 hts gX5_erase_X5_isPlace rfl rfl rfl (by decide +kernel) ⟨Nat.le_of_ble_eq_true rfl, Nat.le_of_ble_eq_true rfl⟩) hG (va_recv (q0 := 0) (ci := 5) hG.1 hP rfl rfl) (hP) rfl rfl hl.1 dX5_erase_4 (Nat.le_of_ble_eq_true rfl) ⟨Nat.le_of_ble_eq_true rfl, Nat.le_of_ble_eq_true rfl⟩ ?_
  refine lv_if_ne (tgt := 12) hx hb dX5_erase_7 (by decide) (fun h7 => ?_) (fun h7 => ?_)
  · skip
    have h7 : ¬ (¬ ((0 ≤ (nI k) ∧ (nI k) < nI (nS σ)) ∧ (nI 0 ≤ (nI d) ∧ (nI d) ≤ nI 3) ∧ (nI 0 ≤ (nI p) ∧ (nI p) ≤ nI 9))) := fun q => h7 ((z_b0).mpr q)
    have h7 : (0 ≤ (nI k) ∧ (nI k) < nI (nS σ)) ∧ (nI 0 ≤ (nI d) ∧ (nI d) ≤ nI 3) ∧ (nI 0 ≤ (nI p) ∧ (nI p) ≤ nI 9) := Decidable.of_not_not h7
    refine lv_aload_n hx hb dX5_erase_12 rfl (lv_at hl 0 rfl) ?_
    refine lv_iload_n hx hb dX5_erase_13 rfl (lv_at hl 1 rfl) ?_
    refine lv_iload_n hx hb dX5_erase_14 rfl (lv_at hl 2 rfl) ?_
    refine lv_iload_n hx hb dX5_erase_15 rfl (lv_at hl 3 rfl) ?_
    refine zrdV (As := [.int (nI k), .int (nI d), .int (nI p)]) ⟨hx, hb, hml, hown, hts⟩ (kX5_signAt l G m σ V ζ ns x len B k d p (by omega) (by omega) (by omega)) (cwV 3 hts gX5_erase_X5_signAt rfl rfl rfl (by decide +kernel) ⟨Nat.le_of_ble_eq_true rfl, Nat.le_of_ble_eq_true rfl⟩) hG (va_recv (q0 := 0) (ci := 5) hG.1 hP rfl rfl) (hP) rfl rfl hl.1 dX5_erase_16 (Nat.le_of_ble_eq_true rfl) ⟨Nat.le_of_ble_eq_true rfl, Nat.le_of_ble_eq_true rfl⟩ ?_
    refine lv_istore (lv' := [(4, .int (nI (sgn σ k d p))), (0, .ref (m 0)), (1, .int (nI k)), (2, .int (nI d)), (3, .int (nI p))]) hx hb dX5_erase_19 hl (by decide) rfl (fun ls hl => ?_)
    refine lv_iload hx hb dX5_erase_21 (lv_at hl 0 rfl) ?_
    refine lv_bipush (v := nI 10) hx hb dX5_erase_23 (by decide) ?_
    refine lv_icmp_ne (tgt := 31) hx hb dX5_erase_25 (by decide) (fun h25 => ?_) (fun h25 => ?_)
    · skip
      have h25 : ¬ ((sgn σ k d p) = 10) := fun q => h25 ((nI_eq (by omega) (by omega)).mpr q)
      refine lv_aload_n hx hb dX5_erase_31 rfl (lv_at hl 1 rfl) ?_
      refine zwrWv (G := G) (wc := (wM G m σ V ζ ns x len B)) (wc' := (wM G m σ V σ ns x len B)) (va_runV (As := []) (rest := []) ⟨hx, hb, hml, hown, hts⟩ (kX5_hold l G m σ V ζ ns x len B (zD_any hD)) (cwV 0 hts gX5_erase_X5_hold rfl rfl rfl (by decide +kernel) ⟨Nat.le_of_ble_eq_true rfl, Nat.le_of_ble_eq_true rfl⟩) (zPreV hG (va_recv (q0 := 0) (ci := 5) hG.1 hP rfl rfl) (hP)) rfl rfl hl.1 rfl (lv_room (Nat.le_of_ble_eq_true rfl)) dX5_erase_32 ⟨Nat.le_of_ble_eq_true rfl, Nat.le_of_ble_eq_true rfl⟩) hP hD hS (wM_map ..) (fun H locs hP hD hS => ?_)
      have hP : va_P G.1 vwCl (wM G m σ V σ ns x len B) H := hP
      have hD : va_D (zA (wM G m σ V ζ ns x len B)) (wM G m σ V σ ns x len B) := hD
      refine lv_aload_n hx hb dX5_erase_35 rfl (lv_at hl 1 rfl) ?_
      refine lv_iload_n hx hb dX5_erase_36 rfl (lv_at hl 2 rfl) ?_
      refine lv_bipush (v := nI 10) hx hb dX5_erase_37 (by decide) ?_
      refine lv_iload_n hx hb dX5_erase_39 rfl (lv_at hl 3 rfl) ?_
      refine lv_imul hx hb dX5_erase_40 ?_
      refine lv_topi (nm_r (e' := nI (10 * d)) (pk_mul _ _) ?_)
      refine lv_iload_n hx hb dX5_erase_41 rfl (lv_at hl 4 rfl) ?_
      refine lv_iadd hx hb dX5_erase_42 ?_
      refine lv_topi (nm_r (e' := nI ((10 * d) + p)) (nI_add _ _) ?_)
      refine lv_bipush (v := nI 10) hx hb dX5_erase_43 (by decide) ?_
      refine zwrWv (G := G) (wc := (wM G m σ V σ ns x len B)) (wc' := (wM G m (su σ (64 + 53 * k + ((10 * d) + p)) 10) V σ ns x len B)) (va_runV (As := [.int (nI k), .int (nI ((10 * d) + p)), .int (nI 10)]) (rest := []) ⟨hx, hb, hml, hown, hts⟩ (kX5_puts l G m σ V σ ns x len B k ((10 * d) + p) 10 (by omega) (by omega) (by omega) (zD_any hD)) (cwV 3 hts gX5_erase_X5_puts rfl rfl rfl (by decide +kernel) ⟨Nat.le_of_ble_eq_true rfl, Nat.le_of_ble_eq_true rfl⟩) (zPreV hG (va_recv (q0 := 0) (ci := 5) hG.1 hP rfl rfl) (hP)) rfl rfl hl.1 rfl (lv_room (Nat.le_of_ble_eq_true rfl)) dX5_erase_45 ⟨Nat.le_of_ble_eq_true rfl, Nat.le_of_ble_eq_true rfl⟩) hP hD hS (wM_map ..) (fun H locs hP hD hS => ?_)
      have hP : va_P G.1 vwCl (wM G m (su σ (64 + 53 * k + ((10 * d) + p)) 10) V σ ns x len B) H := hP
      have hD : va_D (zA (wM G m σ V ζ ns x len B)) (wM G m (su σ (64 + 53 * k + ((10 * d) + p)) 10) V σ ns x len B) := hD
      refine lv_aload_n hx hb dX5_erase_48 rfl (lv_at hl 1 rfl) ?_
      refine lv_iload_n hx hb dX5_erase_49 rfl (lv_at hl 2 rfl) ?_
      refine lv_iconst (v := nI 1) hx hb dX5_erase_50 (by decide) ?_
      refine lv_iload hx hb dX5_erase_51 (lv_at hl 0 rfl) ?_
      refine zwrW (G := G) (wc := (wM G m (su σ (64 + 53 * k + ((10 * d) + p)) 10) V σ ns x len B)) (wc' := (wM G m (su (grs (su σ (64 + 53 * k + ((10 * d) + p)) 10) (nE (su σ (64 + 53 * k + ((10 * d) + p)) 10))) (114 + 53 * k) (rvn (grs (su σ (64 + 53 * k + ((10 * d) + p)) 10) (nE (su σ (64 + 53 * k + ((10 * d) + p)) 10))) k + 1)) (updv V ns σ) σ (nN ns) x len B)) (va_runV (As := [.int (nI k), .int (nI 1), .int (nI (sgn σ k d p))]) (rest := []) ⟨hx, hb, hml, hown, hts⟩ (kX5_keeps_1 l G m (su σ (64 + 53 * k + ((10 * d) + p)) 10) V σ ns x len B k (sgn σ k d p) (hO.su_sg (by omega) (by omega)) (by omega) (by omega) (hg) (zD_any hD)) (cwV 3 hts gX5_erase_X5_keeps rfl rfl rfl (by decide +kernel) ⟨Nat.le_of_ble_eq_true rfl, Nat.le_of_ble_eq_true rfl⟩) (zPreV hG (va_recv (q0 := 0) (ci := 5) hG.1 hP rfl rfl) (hP)) rfl rfl hl.1 rfl (lv_room (Nat.le_of_ble_eq_true rfl)) dX5_erase_53 ⟨Nat.le_of_ble_eq_true rfl, Nat.le_of_ble_eq_true rfl⟩) hP hD hS (wM_map ..) (fun H locs hP hD hS => ?_)
      have hP : va_P G.1 vwCl (wM G m (su (grs (su σ (64 + 53 * k + ((10 * d) + p)) 10) (nE (su σ (64 + 53 * k + ((10 * d) + p)) 10))) (114 + 53 * k) (rvn (grs (su σ (64 + 53 * k + ((10 * d) + p)) 10) (nE (su σ (64 + 53 * k + ((10 * d) + p)) 10))) k + 1)) (updv V ns σ) σ (nN ns) x len B) H := hP
      have hD : va_D (zA (wM G m σ V ζ ns x len B)) (wM G m (su (grs (su σ (64 + 53 * k + ((10 * d) + p)) 10) (nE (su σ (64 + 53 * k + ((10 * d) + p)) 10))) (114 + 53 * k) (rvn (grs (su σ (64 + 53 * k + ((10 * d) + p)) 10) (nE (su σ (64 + 53 * k + ((10 * d) + p)) 10))) k + 1)) (updv V ns σ) σ (nN ns) x len B) := hD
      exact hret _ _ _ _ _ dX5_erase_56 hS (hP) (congrArg nI (rfl))
    · skip
      have h25 : (sgn σ k d p) = 10 := (nI_eq (by omega) (by omega)).mp h25
      exact absurd h25 h10s
  · skip
    have h7 : ¬ ((0 ≤ (nI k) ∧ (nI k) < nI (nS σ)) ∧ (nI 0 ≤ (nI d) ∧ (nI d) ≤ nI 3) ∧ (nI 0 ≤ (nI p) ∧ (nI p) ≤ nI 9)) := (z_b0).mp h7
    exact absurd hvp h7
set_option maxHeartbeats 4000000 in
set_option maxRecDepth 100000 in
theorem kX5_erase_no (l : Launch) (G : zG) (m : Nat → Nat) (σ : Nat → Nat) (V : Nat → Nat → Nat) (ζ : Nat → Nat) (ns : Nat) (x : Nat → Nat) (len : Nat) (B : Nat → Int32) {N : Nat} (k : Nat) (d : Nat) (p : Nat) (hO : Ok N σ) (hns : ns ≤ 4) (hk : k < nS σ) (hd4 : d < 4) (hp : p < 10) (h10s : sgn σ k d p ≠ 10) (hg : (su σ (64 + 53 * k + (10 * d + p)) 10) 2 ≠ 0 ∧ 0 < brA (su σ (64 + 53 * k + (10 * d + p)) 10) (nE (su σ (64 + 53 * k + (10 * d + p)) 10))) (hd : va_D (fun _ => True) (wM G m σ V ζ ns x len B)) : Met l yX5_erase wsX5_erase (zRm 8 183) (zPc G [.ref (m 0), .int (nI k), .int (nI d), .int (nI p)] (va_P G.1 vwCl (wM G m σ V ζ ns x len B))) (zQ (zA (wM G m σ V ζ ns x len B)) (some (.int ((-2)))) (va_P G.1 vwCl (wM G m σ V σ ns x len B))) 0 0 (zA (wM G m σ V ζ ns x len B)) := by
  refine zmkWi (w := (wM G m σ V ζ ns x len B)) hd (cc := cX5_erase) (maxL := 5) (by decide) rfl (Nat.le_of_ble_eq_true rfl) ?_
  intro pr en st mi ar bl me cd ls Q hx hb hml hown hts hG hP hl hD hS hret
  have hown : st.vm.findClass RX5 = some mi.cls := hown
  have hl : lv_has ls 5 [(0, .ref (m 0)), (1, .int (nI k)), (2, .int (nI d)), (3, .int (nI p))] := hl
  have hP : va_P G.1 vwCl (wM G m σ V ζ ns x len B) st.heap := hP
  have hD : va_D (zA (wM G m σ V ζ ns x len B)) (wM G m σ V ζ ns x len B) := hD
  have hc := hO.c
  have hs := hO.lS
  have hr := hO.lR
  have hne := hO.lE
  have hvp : (0 ≤ nI k ∧ nI k < nI (nS σ)) ∧ (0 ≤ nI d ∧ nI d ≤ 3) ∧ (0 ≤ nI p ∧ nI p ≤ 9) := ⟨z_in hk (by omega), z_lem (m := 3) (by omega) (by omega), z_lem (m := 9) (by omega) (by omega)⟩
  have hsg := hO.sg (show k < 36 by omega) hd4 hp
  refine lv_aload_n hx hb dX5_erase_0 rfl (lv_at hl 0 rfl) ?_
  refine lv_iload_n hx hb dX5_erase_1 rfl (lv_at hl 1 rfl) ?_
  refine lv_iload_n hx hb dX5_erase_2 rfl (lv_at hl 2 rfl) ?_
  refine lv_iload_n hx hb dX5_erase_3 rfl (lv_at hl 3 rfl) ?_
  refine zrdV (As := [.int (nI k), .int (nI d), .int (nI p)]) ⟨hx, hb, hml, hown, hts⟩ (kX5_isPlace l G m σ V ζ ns x len B (nI k) (nI d) (nI p)) (cwV 3 hts gX5_erase_X5_isPlace rfl rfl rfl (by decide +kernel) ⟨Nat.le_of_ble_eq_true rfl, Nat.le_of_ble_eq_true rfl⟩) hG (va_recv (q0 := 0) (ci := 5) hG.1 hP rfl rfl) (hP) rfl rfl hl.1 dX5_erase_4 (Nat.le_of_ble_eq_true rfl) ⟨Nat.le_of_ble_eq_true rfl, Nat.le_of_ble_eq_true rfl⟩ ?_
  refine lv_if_ne (tgt := 12) hx hb dX5_erase_7 (by decide) (fun h7 => ?_) (fun h7 => ?_)
  · skip
    have h7 : ¬ (¬ ((0 ≤ (nI k) ∧ (nI k) < nI (nS σ)) ∧ (nI 0 ≤ (nI d) ∧ (nI d) ≤ nI 3) ∧ (nI 0 ≤ (nI p) ∧ (nI p) ≤ nI 9))) := fun q => h7 ((z_b0).mpr q)
    have h7 : (0 ≤ (nI k) ∧ (nI k) < nI (nS σ)) ∧ (nI 0 ≤ (nI d) ∧ (nI d) ≤ nI 3) ∧ (nI 0 ≤ (nI p) ∧ (nI p) ≤ nI 9) := Decidable.of_not_not h7
    refine lv_aload_n hx hb dX5_erase_12 rfl (lv_at hl 0 rfl) ?_
    refine lv_iload_n hx hb dX5_erase_13 rfl (lv_at hl 1 rfl) ?_
    refine lv_iload_n hx hb dX5_erase_14 rfl (lv_at hl 2 rfl) ?_
    refine lv_iload_n hx hb dX5_erase_15 rfl (lv_at hl 3 rfl) ?_
    refine zrdV (As := [.int (nI k), .int (nI d), .int (nI p)]) ⟨hx, hb, hml, hown, hts⟩ (kX5_signAt l G m σ V ζ ns x len B k d p (by omega) (by omega) (by omega)) (cwV 3 hts gX5_erase_X5_signAt rfl rfl rfl (by decide +kernel) ⟨Nat.le_of_ble_eq_true rfl, Nat.le_of_ble_eq_true rfl⟩) hG (va_recv (q0 := 0) (ci := 5) hG.1 hP rfl rfl) (hP) rfl rfl hl.1 dX5_erase_16 (Nat.le_of_ble_eq_true rfl) ⟨Nat.le_of_ble_eq_true rfl, Nat.le_of_ble_eq_true rfl⟩ ?_
    refine lv_istore (lv' := [(4, .int (nI (sgn σ k d p))), (0, .ref (m 0)), (1, .int (nI k)), (2, .int (nI d)), (3, .int (nI p))]) hx hb dX5_erase_19 hl (by decide) rfl (fun ls hl => ?_)
    refine lv_iload hx hb dX5_erase_21 (lv_at hl 0 rfl) ?_
    refine lv_bipush (v := nI 10) hx hb dX5_erase_23 (by decide) ?_
    refine lv_icmp_ne (tgt := 31) hx hb dX5_erase_25 (by decide) (fun h25 => ?_) (fun h25 => ?_)
    · skip
      have h25 : ¬ ((sgn σ k d p) = 10) := fun q => h25 ((nI_eq (by omega) (by omega)).mpr q)
      refine lv_aload_n hx hb dX5_erase_31 rfl (lv_at hl 1 rfl) ?_
      refine zwrWv (G := G) (wc := (wM G m σ V ζ ns x len B)) (wc' := (wM G m σ V σ ns x len B)) (va_runV (As := []) (rest := []) ⟨hx, hb, hml, hown, hts⟩ (kX5_hold l G m σ V ζ ns x len B (zD_any hD)) (cwV 0 hts gX5_erase_X5_hold rfl rfl rfl (by decide +kernel) ⟨Nat.le_of_ble_eq_true rfl, Nat.le_of_ble_eq_true rfl⟩) (zPreV hG (va_recv (q0 := 0) (ci := 5) hG.1 hP rfl rfl) (hP)) rfl rfl hl.1 rfl (lv_room (Nat.le_of_ble_eq_true rfl)) dX5_erase_32 ⟨Nat.le_of_ble_eq_true rfl, Nat.le_of_ble_eq_true rfl⟩) hP hD hS (wM_map ..) (fun H locs hP hD hS => ?_)
      have hP : va_P G.1 vwCl (wM G m σ V σ ns x len B) H := hP
      have hD : va_D (zA (wM G m σ V ζ ns x len B)) (wM G m σ V σ ns x len B) := hD
      refine lv_aload_n hx hb dX5_erase_35 rfl (lv_at hl 1 rfl) ?_
      refine lv_iload_n hx hb dX5_erase_36 rfl (lv_at hl 2 rfl) ?_
      refine lv_bipush (v := nI 10) hx hb dX5_erase_37 (by decide) ?_
      refine lv_iload_n hx hb dX5_erase_39 rfl (lv_at hl 3 rfl) ?_
      refine lv_imul hx hb dX5_erase_40 ?_
      refine lv_topi (nm_r (e' := nI (10 * d)) (pk_mul _ _) ?_)
      refine lv_iload_n hx hb dX5_erase_41 rfl (lv_at hl 4 rfl) ?_
      refine lv_iadd hx hb dX5_erase_42 ?_
      refine lv_topi (nm_r (e' := nI ((10 * d) + p)) (nI_add _ _) ?_)
      refine lv_bipush (v := nI 10) hx hb dX5_erase_43 (by decide) ?_
      refine zwrWv (G := G) (wc := (wM G m σ V σ ns x len B)) (wc' := (wM G m (su σ (64 + 53 * k + ((10 * d) + p)) 10) V σ ns x len B)) (va_runV (As := [.int (nI k), .int (nI ((10 * d) + p)), .int (nI 10)]) (rest := []) ⟨hx, hb, hml, hown, hts⟩ (kX5_puts l G m σ V σ ns x len B k ((10 * d) + p) 10 (by omega) (by omega) (by omega) (zD_any hD)) (cwV 3 hts gX5_erase_X5_puts rfl rfl rfl (by decide +kernel) ⟨Nat.le_of_ble_eq_true rfl, Nat.le_of_ble_eq_true rfl⟩) (zPreV hG (va_recv (q0 := 0) (ci := 5) hG.1 hP rfl rfl) (hP)) rfl rfl hl.1 rfl (lv_room (Nat.le_of_ble_eq_true rfl)) dX5_erase_45 ⟨Nat.le_of_ble_eq_true rfl, Nat.le_of_ble_eq_true rfl⟩) hP hD hS (wM_map ..) (fun H locs hP hD hS => ?_)
      have hP : va_P G.1 vwCl (wM G m (su σ (64 + 53 * k + ((10 * d) + p)) 10) V σ ns x len B) H := hP
      have hD : va_D (zA (wM G m σ V ζ ns x len B)) (wM G m (su σ (64 + 53 * k + ((10 * d) + p)) 10) V σ ns x len B) := hD
      refine lv_aload_n hx hb dX5_erase_48 rfl (lv_at hl 1 rfl) ?_
      refine lv_iload_n hx hb dX5_erase_49 rfl (lv_at hl 2 rfl) ?_
      refine lv_iconst (v := nI 1) hx hb dX5_erase_50 (by decide) ?_
      refine lv_iload hx hb dX5_erase_51 (lv_at hl 0 rfl) ?_
      refine zwrW (G := G) (wc := (wM G m (su σ (64 + 53 * k + ((10 * d) + p)) 10) V σ ns x len B)) (wc' := (wM G m σ V σ ns x len B)) (va_runV (As := [.int (nI k), .int (nI 1), .int (nI (sgn σ k d p))]) (rest := []) ⟨hx, hb, hml, hown, hts⟩ (kX5_keeps_no1 l G m (su σ (64 + 53 * k + ((10 * d) + p)) 10) V σ ns x len B k (sgn σ k d p) (hO.su_sg (by omega) (by omega)) (hg) (zD_any hD)) (cwV 3 hts gX5_erase_X5_keeps rfl rfl rfl (by decide +kernel) ⟨Nat.le_of_ble_eq_true rfl, Nat.le_of_ble_eq_true rfl⟩) (zPreV hG (va_recv (q0 := 0) (ci := 5) hG.1 hP rfl rfl) (hP)) rfl rfl hl.1 rfl (lv_room (Nat.le_of_ble_eq_true rfl)) dX5_erase_53 ⟨Nat.le_of_ble_eq_true rfl, Nat.le_of_ble_eq_true rfl⟩) hP hD hS (wM_map ..) (fun H locs hP hD hS => ?_)
      have hP : va_P G.1 vwCl (wM G m σ V σ ns x len B) H := hP
      have hD : va_D (zA (wM G m σ V ζ ns x len B)) (wM G m σ V σ ns x len B) := hD
      exact hret _ _ _ _ _ dX5_erase_56 hS (hP) (rfl)
    · skip
      have h25 : (sgn σ k d p) = 10 := (nI_eq (by omega) (by omega)).mp h25
      exact absurd h25 h10s
  · skip
    have h7 : ¬ ((0 ≤ (nI k) ∧ (nI k) < nI (nS σ)) ∧ (nI 0 ≤ (nI d) ∧ (nI d) ≤ nI 3) ∧ (nI 0 ≤ (nI p) ∧ (nI p) ≤ nI 9)) := (z_b0).mp h7
    exact absurd hvp h7
set_option maxHeartbeats 4000000 in
set_option maxRecDepth 100000 in
theorem kX5_mean_inv (l : Launch) (G : zG) (m : Nat → Nat) (σ : Nat → Nat) (V : Nat → Nat → Nat) (ζ : Nat → Nat) (ns : Nat) (x : Nat → Nat) (len : Nat) (B : Nat → Int32) {N : Nat} (x1 : Int32) (x2 : Int32) (x3 : Int32) (hO : Ok N σ) (hns : ns ≤ 4) (hv : ¬ ((0 ≤ x1 ∧ x1 < nI (nS σ)) ∧ (nI 0 ≤ x2 ∧ x2 ≤ nI 9) ∧ (nI 0 ≤ x3 ∧ x3 ≤ nI 9))) (hd : va_D (fun _ => True) (wM G m σ V ζ ns x len B)) : Met l yX5_mean wsX5_mean (zRm 8 183) (zPc G [.ref (m 0), .int x1, .int x2, .int x3] (va_P G.1 vwCl (wM G m σ V ζ ns x len B))) (zQ (zA (wM G m σ V ζ ns x len B)) (some (.int ((-1)))) (va_P G.1 vwCl (wM G m σ V ζ ns x len B))) 0 0 (zA (wM G m σ V ζ ns x len B)) := by
  refine zmkWi (w := (wM G m σ V ζ ns x len B)) hd (cc := cX5_mean) (maxL := 5) (by decide) rfl (Nat.le_of_ble_eq_true rfl) ?_
  intro pr en st mi ar bl me cd ls Q hx hb hml hown hts hG hP hl hD hS hret
  have hown : st.vm.findClass RX5 = some mi.cls := hown
  have hl : lv_has ls 5 [(0, .ref (m 0)), (1, .int x1), (2, .int x2), (3, .int x3)] := hl
  have hP : va_P G.1 vwCl (wM G m σ V ζ ns x len B) st.heap := hP
  have hD : va_D (zA (wM G m σ V ζ ns x len B)) (wM G m σ V ζ ns x len B) := hD
  have hc := hO.c
  have hs := hO.lS
  have hr := hO.lR
  have hne := hO.lE
  refine lv_aload_n hx hb dX5_mean_0 rfl (lv_at hl 0 rfl) ?_
  refine lv_iload_n hx hb dX5_mean_1 rfl (lv_at hl 1 rfl) ?_
  refine zrdV (As := [.int x1]) ⟨hx, hb, hml, hown, hts⟩ (kX5_isSheet l G m σ V ζ ns x len B x1) (cwV 1 hts gX5_mean_X5_isSheet rfl rfl rfl (by decide +kernel) ⟨Nat.le_of_ble_eq_true rfl, Nat.le_of_ble_eq_true rfl⟩) hG (va_recv (q0 := 0) (ci := 5) hG.1 hP rfl rfl) (hP) rfl rfl hl.1 dX5_mean_2 (Nat.le_of_ble_eq_true rfl) ⟨Nat.le_of_ble_eq_true rfl, Nat.le_of_ble_eq_true rfl⟩ ?_
  refine lv_if_eq (tgt := 28) hx hb dX5_mean_5 (by decide) (fun h5 => ?_) (fun h5 => ?_)
  · skip
    have h5 : ¬ (0 ≤ x1 ∧ x1 < nI (nS σ)) := (z_b0).mp h5
    refine lv_iconst (v := (-1)) hx hb dX5_mean_28 (by decide) ?_
    exact hret _ _ _ _ _ dX5_mean_29 hS (hP) (rfl)
  · skip
    have h5 : ¬ (¬ (0 ≤ x1 ∧ x1 < nI (nS σ))) := fun q => h5 ((z_b0).mpr q)
    have h5 : 0 ≤ x1 ∧ x1 < nI (nS σ) := Decidable.of_not_not h5
    refine lv_iload_n hx hb dX5_mean_8 rfl (lv_at hl 2 rfl) ?_
    refine lv_iconst (v := nI 0) hx hb dX5_mean_9 (by decide) ?_
    refine lv_bipush (v := nI 9) hx hb dX5_mean_10 (by decide) ?_
    refine zrdS (As := [.int x2, .int (nI 0), .int (nI 9)]) ⟨hx, hb, hml, hown, hts⟩ (kX5_in l G  x2 (nI 0) (nI 9)) (va_cwS 3 hts gX5_mean_X5_in rfl rfl rfl (by decide +kernel) ⟨Nat.le_of_ble_eq_true rfl, Nat.le_of_ble_eq_true rfl⟩) hG (trivial) rfl rfl hl.1 dX5_mean_12 (Nat.le_of_ble_eq_true rfl) ⟨Nat.le_of_ble_eq_true rfl, Nat.le_of_ble_eq_true rfl⟩ ?_
    refine lv_if_eq (tgt := 28) hx hb dX5_mean_15 (by decide) (fun h15 => ?_) (fun h15 => ?_)
    · skip
      have h15 : ¬ ((nI 0) ≤ x2 ∧ x2 ≤ (nI 9)) := (z_b0).mp h15
      refine lv_iconst (v := (-1)) hx hb dX5_mean_28 (by decide) ?_
      exact hret _ _ _ _ _ dX5_mean_29 hS (hP) (rfl)
    · skip
      have h15 : ¬ (¬ ((nI 0) ≤ x2 ∧ x2 ≤ (nI 9))) := fun q => h15 ((z_b0).mpr q)
      have h15 : (nI 0) ≤ x2 ∧ x2 ≤ (nI 9) := Decidable.of_not_not h15
      refine lv_iload_n hx hb dX5_mean_18 rfl (lv_at hl 3 rfl) ?_
      refine lv_iconst (v := nI 0) hx hb dX5_mean_19 (by decide) ?_
      refine lv_bipush (v := nI 9) hx hb dX5_mean_20 (by decide) ?_
      refine zrdS (As := [.int x3, .int (nI 0), .int (nI 9)]) ⟨hx, hb, hml, hown, hts⟩ (kX5_in l G  x3 (nI 0) (nI 9)) (va_cwS 3 hts gX5_mean_X5_in rfl rfl rfl (by decide +kernel) ⟨Nat.le_of_ble_eq_true rfl, Nat.le_of_ble_eq_true rfl⟩) hG (trivial) rfl rfl hl.1 dX5_mean_22 (Nat.le_of_ble_eq_true rfl) ⟨Nat.le_of_ble_eq_true rfl, Nat.le_of_ble_eq_true rfl⟩ ?_
      refine lv_if_ne (tgt := 30) hx hb dX5_mean_25 (by decide) (fun h25 => ?_) (fun h25 => ?_)
      · skip
        have h25 : ¬ (¬ ((nI 0) ≤ x3 ∧ x3 ≤ (nI 9))) := fun q => h25 ((z_b0).mpr q)
        have h25 : (nI 0) ≤ x3 ∧ x3 ≤ (nI 9) := Decidable.of_not_not h25
        exact absurd ⟨h5, h15, h25⟩ hv
      · skip
        have h25 : ¬ ((nI 0) ≤ x3 ∧ x3 ≤ (nI 9)) := (z_b0).mp h25
        refine lv_iconst (v := (-1)) hx hb dX5_mean_28 (by decide) ?_
        exact hret _ _ _ _ _ dX5_mean_29 hS (hP) (rfl)
set_option maxHeartbeats 4000000 in
set_option maxRecDepth 100000 in
theorem kX5_mean_ok (l : Launch) (G : zG) (m : Nat → Nat) (σ : Nat → Nat) (V : Nat → Nat → Nat) (ζ : Nat → Nat) (ns : Nat) (x : Nat → Nat) (len : Nat) (B : Nat → Int32) {N : Nat} (k : Nat) (g : Nat) (v : Nat) (hO : Ok N σ) (hns : ns ≤ 4) (hk : k < nS σ) (hg1 : g < 10) (hv9 : v < 10) (hg : ¬ ((su σ (104 + 53 * k + g) v) 2 ≠ 0 ∧ 0 < brA (su σ (104 + 53 * k + g) v) (nE (su σ (104 + 53 * k + g) v)))) (hd : va_D (fun _ => True) (wM G m σ V ζ ns x len B)) : Met l yX5_mean wsX5_mean (zRm 8 183) (zPc G [.ref (m 0), .int (nI k), .int (nI g), .int (nI v)] (va_P G.1 vwCl (wM G m σ V ζ ns x len B))) (zQ (zA (wM G m σ V ζ ns x len B)) (some (.int (nI (mng σ k g)))) (va_P G.1 vwCl (wM G m (su (grs (su σ (104 + 53 * k + g) v) (nE (su σ (104 + 53 * k + g) v))) (114 + 53 * k) (rvn (grs (su σ (104 + 53 * k + g) v) (nE (su σ (104 + 53 * k + g) v))) k + 1)) (updv V ns σ) σ (nN ns) x len B))) 0 0 (zA (wM G m σ V ζ ns x len B)) := by
  refine zmkWi (w := (wM G m σ V ζ ns x len B)) hd (cc := cX5_mean) (maxL := 5) (by decide) rfl (Nat.le_of_ble_eq_true rfl) ?_
  intro pr en st mi ar bl me cd ls Q hx hb hml hown hts hG hP hl hD hS hret
  have hown : st.vm.findClass RX5 = some mi.cls := hown
  have hl : lv_has ls 5 [(0, .ref (m 0)), (1, .int (nI k)), (2, .int (nI g)), (3, .int (nI v))] := hl
  have hP : va_P G.1 vwCl (wM G m σ V ζ ns x len B) st.heap := hP
  have hD : va_D (zA (wM G m σ V ζ ns x len B)) (wM G m σ V ζ ns x len B) := hD
  have hc := hO.c
  have hs := hO.lS
  have hr := hO.lR
  have hne := hO.lE
  have hvs : 0 ≤ nI k ∧ nI k < nI (nS σ) := z_in hk (by omega)
  have hvg : nI 0 ≤ nI g ∧ nI g ≤ nI 9 := z_lem (by omega) (by omega)
  have hvv : nI 0 ≤ nI v ∧ nI v ≤ nI 9 := z_lem (by omega) (by omega)
  refine lv_aload_n hx hb dX5_mean_0 rfl (lv_at hl 0 rfl) ?_
  refine lv_iload_n hx hb dX5_mean_1 rfl (lv_at hl 1 rfl) ?_
  refine zrdV (As := [.int (nI k)]) ⟨hx, hb, hml, hown, hts⟩ (kX5_isSheet l G m σ V ζ ns x len B (nI k)) (cwV 1 hts gX5_mean_X5_isSheet rfl rfl rfl (by decide +kernel) ⟨Nat.le_of_ble_eq_true rfl, Nat.le_of_ble_eq_true rfl⟩) hG (va_recv (q0 := 0) (ci := 5) hG.1 hP rfl rfl) (hP) rfl rfl hl.1 dX5_mean_2 (Nat.le_of_ble_eq_true rfl) ⟨Nat.le_of_ble_eq_true rfl, Nat.le_of_ble_eq_true rfl⟩ ?_
  refine lv_if_eq (tgt := 28) hx hb dX5_mean_5 (by decide) (fun h5 => ?_) (fun h5 => ?_)
  · skip
    have h5 : ¬ (0 ≤ (nI k) ∧ (nI k) < nI (nS σ)) := (z_b0).mp h5
    exact absurd hvs h5
  · skip
    have h5 : ¬ (¬ (0 ≤ (nI k) ∧ (nI k) < nI (nS σ))) := fun q => h5 ((z_b0).mpr q)
    have h5 : 0 ≤ (nI k) ∧ (nI k) < nI (nS σ) := Decidable.of_not_not h5
    refine lv_iload_n hx hb dX5_mean_8 rfl (lv_at hl 2 rfl) ?_
    refine lv_iconst (v := nI 0) hx hb dX5_mean_9 (by decide) ?_
    refine lv_bipush (v := nI 9) hx hb dX5_mean_10 (by decide) ?_
    refine zrdS (As := [.int (nI g), .int (nI 0), .int (nI 9)]) ⟨hx, hb, hml, hown, hts⟩ (kX5_in l G  (nI g) (nI 0) (nI 9)) (va_cwS 3 hts gX5_mean_X5_in rfl rfl rfl (by decide +kernel) ⟨Nat.le_of_ble_eq_true rfl, Nat.le_of_ble_eq_true rfl⟩) hG (trivial) rfl rfl hl.1 dX5_mean_12 (Nat.le_of_ble_eq_true rfl) ⟨Nat.le_of_ble_eq_true rfl, Nat.le_of_ble_eq_true rfl⟩ ?_
    refine lv_if_eq (tgt := 28) hx hb dX5_mean_15 (by decide) (fun h15 => ?_) (fun h15 => ?_)
    · skip
      have h15 : ¬ ((nI 0) ≤ (nI g) ∧ (nI g) ≤ (nI 9)) := (z_b0).mp h15
      exact absurd hvg h15
    · skip
      have h15 : ¬ (¬ ((nI 0) ≤ (nI g) ∧ (nI g) ≤ (nI 9))) := fun q => h15 ((z_b0).mpr q)
      have h15 : (nI 0) ≤ (nI g) ∧ (nI g) ≤ (nI 9) := Decidable.of_not_not h15
      refine lv_iload_n hx hb dX5_mean_18 rfl (lv_at hl 3 rfl) ?_
      refine lv_iconst (v := nI 0) hx hb dX5_mean_19 (by decide) ?_
      refine lv_bipush (v := nI 9) hx hb dX5_mean_20 (by decide) ?_
      refine zrdS (As := [.int (nI v), .int (nI 0), .int (nI 9)]) ⟨hx, hb, hml, hown, hts⟩ (kX5_in l G  (nI v) (nI 0) (nI 9)) (va_cwS 3 hts gX5_mean_X5_in rfl rfl rfl (by decide +kernel) ⟨Nat.le_of_ble_eq_true rfl, Nat.le_of_ble_eq_true rfl⟩) hG (trivial) rfl rfl hl.1 dX5_mean_22 (Nat.le_of_ble_eq_true rfl) ⟨Nat.le_of_ble_eq_true rfl, Nat.le_of_ble_eq_true rfl⟩ ?_
      refine lv_if_ne (tgt := 30) hx hb dX5_mean_25 (by decide) (fun h25 => ?_) (fun h25 => ?_)
      · skip
        have h25 : ¬ (¬ ((nI 0) ≤ (nI v) ∧ (nI v) ≤ (nI 9))) := fun q => h25 ((z_b0).mpr q)
        have h25 : (nI 0) ≤ (nI v) ∧ (nI v) ≤ (nI 9) := Decidable.of_not_not h25
        refine lv_aload_n hx hb dX5_mean_30 rfl (lv_at hl 0 rfl) ?_
        refine zwrWv (G := G) (wc := (wM G m σ V ζ ns x len B)) (wc' := (wM G m σ V σ ns x len B)) (va_runV (As := []) (rest := []) ⟨hx, hb, hml, hown, hts⟩ (kX5_hold l G m σ V ζ ns x len B (zD_any hD)) (cwV 0 hts gX5_mean_X5_hold rfl rfl rfl (by decide +kernel) ⟨Nat.le_of_ble_eq_true rfl, Nat.le_of_ble_eq_true rfl⟩) (zPreV hG (va_recv (q0 := 0) (ci := 5) hG.1 hP rfl rfl) (hP)) rfl rfl hl.1 rfl (lv_room (Nat.le_of_ble_eq_true rfl)) dX5_mean_31 ⟨Nat.le_of_ble_eq_true rfl, Nat.le_of_ble_eq_true rfl⟩) hP hD hS (wM_map ..) (fun H locs hP hD hS => ?_)
        have hP : va_P G.1 vwCl (wM G m σ V σ ns x len B) H := hP
        have hD : va_D (zA (wM G m σ V ζ ns x len B)) (wM G m σ V σ ns x len B) := hD
        refine lv_aload_n hx hb dX5_mean_34 rfl (lv_at hl 0 rfl) ?_
        refine lv_iload_n hx hb dX5_mean_35 rfl (lv_at hl 1 rfl) ?_
        refine lv_bipush (v := nI 40) hx hb dX5_mean_36 (by decide) ?_
        refine lv_iload_n hx hb dX5_mean_38 rfl (lv_at hl 2 rfl) ?_
        refine lv_iadd hx hb dX5_mean_39 ?_
        refine lv_topi (nm_r (e' := nI (40 + g)) (nI_add _ _) ?_)
        refine zrdV (As := [.int (nI k), .int (nI (40 + g))]) ⟨hx, hb, hml, hown, hts⟩ (kX5_of l G m σ V σ ns x len B k (40 + g) (by omega) (by omega) (by omega)) (cwV 2 hts gX5_mean_X5_of rfl rfl rfl (by decide +kernel) ⟨Nat.le_of_ble_eq_true rfl, Nat.le_of_ble_eq_true rfl⟩) hG (va_recv (q0 := 0) (ci := 5) hG.1 hP rfl rfl) (hP) rfl rfl hl.1 dX5_mean_40 (Nat.le_of_ble_eq_true rfl) ⟨Nat.le_of_ble_eq_true rfl, Nat.le_of_ble_eq_true rfl⟩ ?_
        refine lv_topi (nm_r (e' := nI (mng σ k g)) (by unfold mng; rw [show 104 + 53 * k + g = 64 + 53 * k + (40 + g) by omega]) ?_)
        refine lv_istore (lv' := [(4, .int (nI (mng σ k g))), (0, .ref (m 0)), (1, .int (nI k)), (2, .int (nI g)), (3, .int (nI v))]) hx hb dX5_mean_43 hl (by decide) rfl (fun ls hl => ?_)
        refine lv_aload_n hx hb dX5_mean_45 rfl (lv_at hl 1 rfl) ?_
        refine lv_iload_n hx hb dX5_mean_46 rfl (lv_at hl 2 rfl) ?_
        refine lv_bipush (v := nI 40) hx hb dX5_mean_47 (by decide) ?_
        refine lv_iload_n hx hb dX5_mean_49 rfl (lv_at hl 3 rfl) ?_
        refine lv_iadd hx hb dX5_mean_50 ?_
        refine lv_topi (nm_r (e' := nI (40 + g)) (nI_add _ _) ?_)
        refine lv_iload_n hx hb dX5_mean_51 rfl (lv_at hl 4 rfl) ?_
        refine zwrWv (G := G) (wc := (wM G m σ V σ ns x len B)) (wc' := (wM G m (su σ (64 + 53 * k + (40 + g)) v) V σ ns x len B)) (va_runV (As := [.int (nI k), .int (nI (40 + g)), .int (nI v)]) (rest := []) ⟨hx, hb, hml, hown, hts⟩ (kX5_puts l G m σ V σ ns x len B k (40 + g) v (by omega) (by omega) (by omega) (zD_any hD)) (cwV 3 hts gX5_mean_X5_puts rfl rfl rfl (by decide +kernel) ⟨Nat.le_of_ble_eq_true rfl, Nat.le_of_ble_eq_true rfl⟩) (zPreV hG (va_recv (q0 := 0) (ci := 5) hG.1 hP rfl rfl) (hP)) rfl rfl hl.1 rfl (lv_room (Nat.le_of_ble_eq_true rfl)) dX5_mean_52 ⟨Nat.le_of_ble_eq_true rfl, Nat.le_of_ble_eq_true rfl⟩) hP hD hS (wM_map ..) (fun H locs hP hD hS => ?_)
        have hP : va_P G.1 vwCl (wM G m (su σ (64 + 53 * k + (40 + g)) v) V σ ns x len B) H := hP
        have hD : va_D (zA (wM G m σ V ζ ns x len B)) (wM G m (su σ (64 + 53 * k + (40 + g)) v) V σ ns x len B) := hD
        rw [show 64 + 53 * k + (40 + g) = 104 + 53 * k + g by omega] at hP hD
        have hP : va_P G.1 vwCl (wM G m (su σ (104 + 53 * k + g) v) V σ ns x len B) H := hP
        have hD : va_D (zA (wM G m σ V ζ ns x len B)) (wM G m (su σ (104 + 53 * k + g) v) V σ ns x len B) := hD
        refine lv_aload_n hx hb dX5_mean_55 rfl (lv_at hl 1 rfl) ?_
        refine lv_iload_n hx hb dX5_mean_56 rfl (lv_at hl 2 rfl) ?_
        refine lv_iconst (v := nI 1) hx hb dX5_mean_57 (by decide) ?_
        refine lv_iload hx hb dX5_mean_58 (lv_at hl 0 rfl) ?_
        refine zwrW (G := G) (wc := (wM G m (su σ (104 + 53 * k + g) v) V σ ns x len B)) (wc' := (wM G m (su (grs (su σ (104 + 53 * k + g) v) (nE (su σ (104 + 53 * k + g) v))) (114 + 53 * k) (rvn (grs (su σ (104 + 53 * k + g) v) (nE (su σ (104 + 53 * k + g) v))) k + 1)) (updv V ns σ) σ (nN ns) x len B)) (va_runV (As := [.int (nI k), .int (nI 1), .int (nI (mng σ k g))]) (rest := []) ⟨hx, hb, hml, hown, hts⟩ (kX5_keeps_1 l G m (su σ (104 + 53 * k + g) v) V σ ns x len B k (mng σ k g) (hO.su_mn (by omega) (by omega)) (by omega) (by omega) (hg) (zD_any hD)) (cwV 3 hts gX5_mean_X5_keeps rfl rfl rfl (by decide +kernel) ⟨Nat.le_of_ble_eq_true rfl, Nat.le_of_ble_eq_true rfl⟩) (zPreV hG (va_recv (q0 := 0) (ci := 5) hG.1 hP rfl rfl) (hP)) rfl rfl hl.1 rfl (lv_room (Nat.le_of_ble_eq_true rfl)) dX5_mean_60 ⟨Nat.le_of_ble_eq_true rfl, Nat.le_of_ble_eq_true rfl⟩) hP hD hS (wM_map ..) (fun H locs hP hD hS => ?_)
        have hP : va_P G.1 vwCl (wM G m (su (grs (su σ (104 + 53 * k + g) v) (nE (su σ (104 + 53 * k + g) v))) (114 + 53 * k) (rvn (grs (su σ (104 + 53 * k + g) v) (nE (su σ (104 + 53 * k + g) v))) k + 1)) (updv V ns σ) σ (nN ns) x len B) H := hP
        have hD : va_D (zA (wM G m σ V ζ ns x len B)) (wM G m (su (grs (su σ (104 + 53 * k + g) v) (nE (su σ (104 + 53 * k + g) v))) (114 + 53 * k) (rvn (grs (su σ (104 + 53 * k + g) v) (nE (su σ (104 + 53 * k + g) v))) k + 1)) (updv V ns σ) σ (nN ns) x len B) := hD
        exact hret _ _ _ _ _ dX5_mean_63 hS (hP) (congrArg nI (rfl))
      · skip
        have h25 : ¬ ((nI 0) ≤ (nI v) ∧ (nI v) ≤ (nI 9)) := (z_b0).mp h25
        exact absurd hvv h25
set_option maxHeartbeats 4000000 in
set_option maxRecDepth 100000 in
theorem kX5_mean_no (l : Launch) (G : zG) (m : Nat → Nat) (σ : Nat → Nat) (V : Nat → Nat → Nat) (ζ : Nat → Nat) (ns : Nat) (x : Nat → Nat) (len : Nat) (B : Nat → Int32) {N : Nat} (k : Nat) (g : Nat) (v : Nat) (hO : Ok N σ) (hns : ns ≤ 4) (hk : k < nS σ) (hg1 : g < 10) (hv9 : v < 10) (hg : (su σ (104 + 53 * k + g) v) 2 ≠ 0 ∧ 0 < brA (su σ (104 + 53 * k + g) v) (nE (su σ (104 + 53 * k + g) v))) (hd : va_D (fun _ => True) (wM G m σ V ζ ns x len B)) : Met l yX5_mean wsX5_mean (zRm 8 183) (zPc G [.ref (m 0), .int (nI k), .int (nI g), .int (nI v)] (va_P G.1 vwCl (wM G m σ V ζ ns x len B))) (zQ (zA (wM G m σ V ζ ns x len B)) (some (.int ((-2)))) (va_P G.1 vwCl (wM G m σ V σ ns x len B))) 0 0 (zA (wM G m σ V ζ ns x len B)) := by
  refine zmkWi (w := (wM G m σ V ζ ns x len B)) hd (cc := cX5_mean) (maxL := 5) (by decide) rfl (Nat.le_of_ble_eq_true rfl) ?_
  intro pr en st mi ar bl me cd ls Q hx hb hml hown hts hG hP hl hD hS hret
  have hown : st.vm.findClass RX5 = some mi.cls := hown
  have hl : lv_has ls 5 [(0, .ref (m 0)), (1, .int (nI k)), (2, .int (nI g)), (3, .int (nI v))] := hl
  have hP : va_P G.1 vwCl (wM G m σ V ζ ns x len B) st.heap := hP
  have hD : va_D (zA (wM G m σ V ζ ns x len B)) (wM G m σ V ζ ns x len B) := hD
  have hc := hO.c
  have hs := hO.lS
  have hr := hO.lR
  have hne := hO.lE
  have hvs : 0 ≤ nI k ∧ nI k < nI (nS σ) := z_in hk (by omega)
  have hvg : nI 0 ≤ nI g ∧ nI g ≤ nI 9 := z_lem (by omega) (by omega)
  have hvv : nI 0 ≤ nI v ∧ nI v ≤ nI 9 := z_lem (by omega) (by omega)
  refine lv_aload_n hx hb dX5_mean_0 rfl (lv_at hl 0 rfl) ?_
  refine lv_iload_n hx hb dX5_mean_1 rfl (lv_at hl 1 rfl) ?_
  refine zrdV (As := [.int (nI k)]) ⟨hx, hb, hml, hown, hts⟩ (kX5_isSheet l G m σ V ζ ns x len B (nI k)) (cwV 1 hts gX5_mean_X5_isSheet rfl rfl rfl (by decide +kernel) ⟨Nat.le_of_ble_eq_true rfl, Nat.le_of_ble_eq_true rfl⟩) hG (va_recv (q0 := 0) (ci := 5) hG.1 hP rfl rfl) (hP) rfl rfl hl.1 dX5_mean_2 (Nat.le_of_ble_eq_true rfl) ⟨Nat.le_of_ble_eq_true rfl, Nat.le_of_ble_eq_true rfl⟩ ?_
  refine lv_if_eq (tgt := 28) hx hb dX5_mean_5 (by decide) (fun h5 => ?_) (fun h5 => ?_)
  · skip
    have h5 : ¬ (0 ≤ (nI k) ∧ (nI k) < nI (nS σ)) := (z_b0).mp h5
    exact absurd hvs h5
  · skip
    have h5 : ¬ (¬ (0 ≤ (nI k) ∧ (nI k) < nI (nS σ))) := fun q => h5 ((z_b0).mpr q)
    have h5 : 0 ≤ (nI k) ∧ (nI k) < nI (nS σ) := Decidable.of_not_not h5
    refine lv_iload_n hx hb dX5_mean_8 rfl (lv_at hl 2 rfl) ?_
    refine lv_iconst (v := nI 0) hx hb dX5_mean_9 (by decide) ?_
    refine lv_bipush (v := nI 9) hx hb dX5_mean_10 (by decide) ?_
    refine zrdS (As := [.int (nI g), .int (nI 0), .int (nI 9)]) ⟨hx, hb, hml, hown, hts⟩ (kX5_in l G  (nI g) (nI 0) (nI 9)) (va_cwS 3 hts gX5_mean_X5_in rfl rfl rfl (by decide +kernel) ⟨Nat.le_of_ble_eq_true rfl, Nat.le_of_ble_eq_true rfl⟩) hG (trivial) rfl rfl hl.1 dX5_mean_12 (Nat.le_of_ble_eq_true rfl) ⟨Nat.le_of_ble_eq_true rfl, Nat.le_of_ble_eq_true rfl⟩ ?_
    refine lv_if_eq (tgt := 28) hx hb dX5_mean_15 (by decide) (fun h15 => ?_) (fun h15 => ?_)
    · skip
      have h15 : ¬ ((nI 0) ≤ (nI g) ∧ (nI g) ≤ (nI 9)) := (z_b0).mp h15
      exact absurd hvg h15
    · skip
      have h15 : ¬ (¬ ((nI 0) ≤ (nI g) ∧ (nI g) ≤ (nI 9))) := fun q => h15 ((z_b0).mpr q)
      have h15 : (nI 0) ≤ (nI g) ∧ (nI g) ≤ (nI 9) := Decidable.of_not_not h15
      refine lv_iload_n hx hb dX5_mean_18 rfl (lv_at hl 3 rfl) ?_
      refine lv_iconst (v := nI 0) hx hb dX5_mean_19 (by decide) ?_
      refine lv_bipush (v := nI 9) hx hb dX5_mean_20 (by decide) ?_
      refine zrdS (As := [.int (nI v), .int (nI 0), .int (nI 9)]) ⟨hx, hb, hml, hown, hts⟩ (kX5_in l G  (nI v) (nI 0) (nI 9)) (va_cwS 3 hts gX5_mean_X5_in rfl rfl rfl (by decide +kernel) ⟨Nat.le_of_ble_eq_true rfl, Nat.le_of_ble_eq_true rfl⟩) hG (trivial) rfl rfl hl.1 dX5_mean_22 (Nat.le_of_ble_eq_true rfl) ⟨Nat.le_of_ble_eq_true rfl, Nat.le_of_ble_eq_true rfl⟩ ?_
      refine lv_if_ne (tgt := 30) hx hb dX5_mean_25 (by decide) (fun h25 => ?_) (fun h25 => ?_)
      · skip
        have h25 : ¬ (¬ ((nI 0) ≤ (nI v) ∧ (nI v) ≤ (nI 9))) := fun q => h25 ((z_b0).mpr q)
        have h25 : (nI 0) ≤ (nI v) ∧ (nI v) ≤ (nI 9) := Decidable.of_not_not h25
        refine lv_aload_n hx hb dX5_mean_30 rfl (lv_at hl 0 rfl) ?_
        refine zwrWv (G := G) (wc := (wM G m σ V ζ ns x len B)) (wc' := (wM G m σ V σ ns x len B)) (va_runV (As := []) (rest := []) ⟨hx, hb, hml, hown, hts⟩ (kX5_hold l G m σ V ζ ns x len B (zD_any hD)) (cwV 0 hts gX5_mean_X5_hold rfl rfl rfl (by decide +kernel) ⟨Nat.le_of_ble_eq_true rfl, Nat.le_of_ble_eq_true rfl⟩) (zPreV hG (va_recv (q0 := 0) (ci := 5) hG.1 hP rfl rfl) (hP)) rfl rfl hl.1 rfl (lv_room (Nat.le_of_ble_eq_true rfl)) dX5_mean_31 ⟨Nat.le_of_ble_eq_true rfl, Nat.le_of_ble_eq_true rfl⟩) hP hD hS (wM_map ..) (fun H locs hP hD hS => ?_)
        have hP : va_P G.1 vwCl (wM G m σ V σ ns x len B) H := hP
        have hD : va_D (zA (wM G m σ V ζ ns x len B)) (wM G m σ V σ ns x len B) := hD
        refine lv_aload_n hx hb dX5_mean_34 rfl (lv_at hl 0 rfl) ?_
        refine lv_iload_n hx hb dX5_mean_35 rfl (lv_at hl 1 rfl) ?_
        refine lv_bipush (v := nI 40) hx hb dX5_mean_36 (by decide) ?_
        refine lv_iload_n hx hb dX5_mean_38 rfl (lv_at hl 2 rfl) ?_
        refine lv_iadd hx hb dX5_mean_39 ?_
        refine lv_topi (nm_r (e' := nI (40 + g)) (nI_add _ _) ?_)
        refine zrdV (As := [.int (nI k), .int (nI (40 + g))]) ⟨hx, hb, hml, hown, hts⟩ (kX5_of l G m σ V σ ns x len B k (40 + g) (by omega) (by omega) (by omega)) (cwV 2 hts gX5_mean_X5_of rfl rfl rfl (by decide +kernel) ⟨Nat.le_of_ble_eq_true rfl, Nat.le_of_ble_eq_true rfl⟩) hG (va_recv (q0 := 0) (ci := 5) hG.1 hP rfl rfl) (hP) rfl rfl hl.1 dX5_mean_40 (Nat.le_of_ble_eq_true rfl) ⟨Nat.le_of_ble_eq_true rfl, Nat.le_of_ble_eq_true rfl⟩ ?_
        refine lv_topi (nm_r (e' := nI (mng σ k g)) (by unfold mng; rw [show 104 + 53 * k + g = 64 + 53 * k + (40 + g) by omega]) ?_)
        refine lv_istore (lv' := [(4, .int (nI (mng σ k g))), (0, .ref (m 0)), (1, .int (nI k)), (2, .int (nI g)), (3, .int (nI v))]) hx hb dX5_mean_43 hl (by decide) rfl (fun ls hl => ?_)
        refine lv_aload_n hx hb dX5_mean_45 rfl (lv_at hl 1 rfl) ?_
        refine lv_iload_n hx hb dX5_mean_46 rfl (lv_at hl 2 rfl) ?_
        refine lv_bipush (v := nI 40) hx hb dX5_mean_47 (by decide) ?_
        refine lv_iload_n hx hb dX5_mean_49 rfl (lv_at hl 3 rfl) ?_
        refine lv_iadd hx hb dX5_mean_50 ?_
        refine lv_topi (nm_r (e' := nI (40 + g)) (nI_add _ _) ?_)
        refine lv_iload_n hx hb dX5_mean_51 rfl (lv_at hl 4 rfl) ?_
        refine zwrWv (G := G) (wc := (wM G m σ V σ ns x len B)) (wc' := (wM G m (su σ (64 + 53 * k + (40 + g)) v) V σ ns x len B)) (va_runV (As := [.int (nI k), .int (nI (40 + g)), .int (nI v)]) (rest := []) ⟨hx, hb, hml, hown, hts⟩ (kX5_puts l G m σ V σ ns x len B k (40 + g) v (by omega) (by omega) (by omega) (zD_any hD)) (cwV 3 hts gX5_mean_X5_puts rfl rfl rfl (by decide +kernel) ⟨Nat.le_of_ble_eq_true rfl, Nat.le_of_ble_eq_true rfl⟩) (zPreV hG (va_recv (q0 := 0) (ci := 5) hG.1 hP rfl rfl) (hP)) rfl rfl hl.1 rfl (lv_room (Nat.le_of_ble_eq_true rfl)) dX5_mean_52 ⟨Nat.le_of_ble_eq_true rfl, Nat.le_of_ble_eq_true rfl⟩) hP hD hS (wM_map ..) (fun H locs hP hD hS => ?_)
        have hP : va_P G.1 vwCl (wM G m (su σ (64 + 53 * k + (40 + g)) v) V σ ns x len B) H := hP
        have hD : va_D (zA (wM G m σ V ζ ns x len B)) (wM G m (su σ (64 + 53 * k + (40 + g)) v) V σ ns x len B) := hD
        rw [show 64 + 53 * k + (40 + g) = 104 + 53 * k + g by omega] at hP hD
        have hP : va_P G.1 vwCl (wM G m (su σ (104 + 53 * k + g) v) V σ ns x len B) H := hP
        have hD : va_D (zA (wM G m σ V ζ ns x len B)) (wM G m (su σ (104 + 53 * k + g) v) V σ ns x len B) := hD
        refine lv_aload_n hx hb dX5_mean_55 rfl (lv_at hl 1 rfl) ?_
        refine lv_iload_n hx hb dX5_mean_56 rfl (lv_at hl 2 rfl) ?_
        refine lv_iconst (v := nI 1) hx hb dX5_mean_57 (by decide) ?_
        refine lv_iload hx hb dX5_mean_58 (lv_at hl 0 rfl) ?_
        refine zwrW (G := G) (wc := (wM G m (su σ (104 + 53 * k + g) v) V σ ns x len B)) (wc' := (wM G m σ V σ ns x len B)) (va_runV (As := [.int (nI k), .int (nI 1), .int (nI (mng σ k g))]) (rest := []) ⟨hx, hb, hml, hown, hts⟩ (kX5_keeps_no1 l G m (su σ (104 + 53 * k + g) v) V σ ns x len B k (mng σ k g) (hO.su_mn (by omega) (by omega)) (hg) (zD_any hD)) (cwV 3 hts gX5_mean_X5_keeps rfl rfl rfl (by decide +kernel) ⟨Nat.le_of_ble_eq_true rfl, Nat.le_of_ble_eq_true rfl⟩) (zPreV hG (va_recv (q0 := 0) (ci := 5) hG.1 hP rfl rfl) (hP)) rfl rfl hl.1 rfl (lv_room (Nat.le_of_ble_eq_true rfl)) dX5_mean_60 ⟨Nat.le_of_ble_eq_true rfl, Nat.le_of_ble_eq_true rfl⟩) hP hD hS (wM_map ..) (fun H locs hP hD hS => ?_)
        have hP : va_P G.1 vwCl (wM G m σ V σ ns x len B) H := hP
        have hD : va_D (zA (wM G m σ V ζ ns x len B)) (wM G m σ V σ ns x len B) := hD
        exact hret _ _ _ _ _ dX5_mean_63 hS (hP) (rfl)
      · skip
        have h25 : ¬ ((nI 0) ≤ (nI v) ∧ (nI v) ≤ (nI 9)) := (z_b0).mp h25
        exact absurd hvv h25
set_option maxHeartbeats 4000000 in
set_option maxRecDepth 100000 in
theorem kX5_sign_inv (l : Launch) (G : zG) (m : Nat → Nat) (σ : Nat → Nat) (V : Nat → Nat → Nat) (ζ : Nat → Nat) (ns : Nat) (x : Nat → Nat) (len : Nat) (B : Nat → Int32) {N : Nat} (x1 : Int32) (x2 : Int32) (x3 : Int32) (hO : Ok N σ) (hns : ns ≤ 4) (hv : ¬ ((0 ≤ x1 ∧ x1 < nI (nS σ)) ∧ (0 ≤ x2 ∧ x2 ≤ 3) ∧ (0 ≤ x3 ∧ x3 ≤ 9))) (hd : va_D (fun _ => True) (wM G m σ V ζ ns x len B)) : Met l yX5_sign wsX5_sign (zRm 3 64) (zPc G [.ref (m 0), .int x1, .int x2, .int x3] (va_P G.1 vwCl (wM G m σ V ζ ns x len B))) (zQ (zA (wM G m σ V ζ ns x len B)) (some (.int ((-1)))) (va_P G.1 vwCl (wM G m σ V ζ ns x len B))) 0 0 (zA (wM G m σ V ζ ns x len B)) := by
  refine zmkWi (w := (wM G m σ V ζ ns x len B)) hd (cc := cX5_sign) (maxL := 5) (by decide) rfl (Nat.le_of_ble_eq_true rfl) ?_
  intro pr en st mi ar bl me cd ls Q hx hb hml hown hts hG hP hl hD hS hret
  have hown : st.vm.findClass RX5 = some mi.cls := hown
  have hl : lv_has ls 5 [(0, .ref (m 0)), (1, .int x1), (2, .int x2), (3, .int x3)] := hl
  have hP : va_P G.1 vwCl (wM G m σ V ζ ns x len B) st.heap := hP
  have hD : va_D (zA (wM G m σ V ζ ns x len B)) (wM G m σ V ζ ns x len B) := hD
  have hc := hO.c
  have hs := hO.lS
  have hr := hO.lR
  have hne := hO.lE
  refine lv_aload_n hx hb dX5_sign_0 rfl (lv_at hl 0 rfl) ?_
  refine lv_iload_n hx hb dX5_sign_1 rfl (lv_at hl 1 rfl) ?_
  refine lv_iload_n hx hb dX5_sign_2 rfl (lv_at hl 2 rfl) ?_
  refine lv_iload_n hx hb dX5_sign_3 rfl (lv_at hl 3 rfl) ?_
  refine zrdV (As := [.int x1, .int x2, .int x3]) ⟨hx, hb, hml, hown, hts⟩ (kX5_isPlace l G m σ V ζ ns x len B x1 x2 x3) (cwV 3 hts gX5_sign_X5_isPlace rfl rfl rfl (by decide +kernel) ⟨Nat.le_of_ble_eq_true rfl, Nat.le_of_ble_eq_true rfl⟩) hG (va_recv (q0 := 0) (ci := 5) hG.1 hP rfl rfl) (hP) rfl rfl hl.1 dX5_sign_4 (Nat.le_of_ble_eq_true rfl) ⟨Nat.le_of_ble_eq_true rfl, Nat.le_of_ble_eq_true rfl⟩ ?_
  refine lv_if_ne (tgt := 12) hx hb dX5_sign_7 (by decide) (fun h7 => ?_) (fun h7 => ?_)
  · skip
    have h7 : ¬ (¬ ((0 ≤ x1 ∧ x1 < nI (nS σ)) ∧ (nI 0 ≤ x2 ∧ x2 ≤ nI 3) ∧ (nI 0 ≤ x3 ∧ x3 ≤ nI 9))) := fun q => h7 ((z_b0).mpr q)
    have h7 : (0 ≤ x1 ∧ x1 < nI (nS σ)) ∧ (nI 0 ≤ x2 ∧ x2 ≤ nI 3) ∧ (nI 0 ≤ x3 ∧ x3 ≤ nI 9) := Decidable.of_not_not h7
    exact absurd h7 hv
  · skip
    have h7 : ¬ ((0 ≤ x1 ∧ x1 < nI (nS σ)) ∧ (nI 0 ≤ x2 ∧ x2 ≤ nI 3) ∧ (nI 0 ≤ x3 ∧ x3 ≤ nI 9)) := (z_b0).mp h7
    refine lv_iconst (v := (-1)) hx hb dX5_sign_10 (by decide) ?_
    exact hret _ _ _ _ _ dX5_sign_11 hS (hP) (rfl)
set_option maxHeartbeats 4000000 in
set_option maxRecDepth 100000 in
theorem kX5_sign_ok (l : Launch) (G : zG) (m : Nat → Nat) (σ : Nat → Nat) (V : Nat → Nat → Nat) (ζ : Nat → Nat) (ns : Nat) (x : Nat → Nat) (len : Nat) (B : Nat → Int32) {N : Nat} (k : Nat) (d : Nat) (p : Nat) (hO : Ok N σ) (hns : ns ≤ 4) (hk : k < nS σ) (hd4 : d < 4) (hp : p < 10) (hd : va_D (fun _ => True) (wM G m σ V ζ ns x len B)) : Met l yX5_sign wsX5_sign (zRm 3 64) (zPc G [.ref (m 0), .int (nI k), .int (nI d), .int (nI p)] (va_P G.1 vwCl (wM G m σ V ζ ns x len B))) (zQ (zA (wM G m σ V ζ ns x len B)) (some (.int (zc 10 (sgn σ k d p)))) (va_P G.1 vwCl (wM G m σ V ζ ns x len B))) 0 0 (zA (wM G m σ V ζ ns x len B)) := by
  refine zmkWi (w := (wM G m σ V ζ ns x len B)) hd (cc := cX5_sign) (maxL := 5) (by decide) rfl (Nat.le_of_ble_eq_true rfl) ?_
  intro pr en st mi ar bl me cd ls Q hx hb hml hown hts hG hP hl hD hS hret
  have hown : st.vm.findClass RX5 = some mi.cls := hown
  have hl : lv_has ls 5 [(0, .ref (m 0)), (1, .int (nI k)), (2, .int (nI d)), (3, .int (nI p))] := hl
  have hP : va_P G.1 vwCl (wM G m σ V ζ ns x len B) st.heap := hP
  have hD : va_D (zA (wM G m σ V ζ ns x len B)) (wM G m σ V ζ ns x len B) := hD
  have hc := hO.c
  have hs := hO.lS
  have hr := hO.lR
  have hne := hO.lE
  have hvp : (0 ≤ nI k ∧ nI k < nI (nS σ)) ∧ (0 ≤ nI d ∧ nI d ≤ 3) ∧ (0 ≤ nI p ∧ nI p ≤ 9) := ⟨z_in hk (by omega), z_lem (m := 3) (by omega) (by omega), z_lem (m := 9) (by omega) (by omega)⟩
  have hsg := hO.sg (show k < 36 by omega) hd4 hp
  refine lv_aload_n hx hb dX5_sign_0 rfl (lv_at hl 0 rfl) ?_
  refine lv_iload_n hx hb dX5_sign_1 rfl (lv_at hl 1 rfl) ?_
  refine lv_iload_n hx hb dX5_sign_2 rfl (lv_at hl 2 rfl) ?_
  refine lv_iload_n hx hb dX5_sign_3 rfl (lv_at hl 3 rfl) ?_
  refine zrdV (As := [.int (nI k), .int (nI d), .int (nI p)]) ⟨hx, hb, hml, hown, hts⟩ (kX5_isPlace l G m σ V ζ ns x len B (nI k) (nI d) (nI p)) (cwV 3 hts gX5_sign_X5_isPlace rfl rfl rfl (by decide +kernel) ⟨Nat.le_of_ble_eq_true rfl, Nat.le_of_ble_eq_true rfl⟩) hG (va_recv (q0 := 0) (ci := 5) hG.1 hP rfl rfl) (hP) rfl rfl hl.1 dX5_sign_4 (Nat.le_of_ble_eq_true rfl) ⟨Nat.le_of_ble_eq_true rfl, Nat.le_of_ble_eq_true rfl⟩ ?_
  refine lv_if_ne (tgt := 12) hx hb dX5_sign_7 (by decide) (fun h7 => ?_) (fun h7 => ?_)
  · skip
    have h7 : ¬ (¬ ((0 ≤ (nI k) ∧ (nI k) < nI (nS σ)) ∧ (nI 0 ≤ (nI d) ∧ (nI d) ≤ nI 3) ∧ (nI 0 ≤ (nI p) ∧ (nI p) ≤ nI 9))) := fun q => h7 ((z_b0).mpr q)
    have h7 : (0 ≤ (nI k) ∧ (nI k) < nI (nS σ)) ∧ (nI 0 ≤ (nI d) ∧ (nI d) ≤ nI 3) ∧ (nI 0 ≤ (nI p) ∧ (nI p) ≤ nI 9) := Decidable.of_not_not h7
    refine lv_aload_n hx hb dX5_sign_12 rfl (lv_at hl 0 rfl) ?_
    refine lv_iload_n hx hb dX5_sign_13 rfl (lv_at hl 1 rfl) ?_
    refine lv_iload_n hx hb dX5_sign_14 rfl (lv_at hl 2 rfl) ?_
    refine lv_iload_n hx hb dX5_sign_15 rfl (lv_at hl 3 rfl) ?_
    refine zrdV (As := [.int (nI k), .int (nI d), .int (nI p)]) ⟨hx, hb, hml, hown, hts⟩ (kX5_signAt l G m σ V ζ ns x len B k d p (by omega) (by omega) (by omega)) (cwV 3 hts gX5_sign_X5_signAt rfl rfl rfl (by decide +kernel) ⟨Nat.le_of_ble_eq_true rfl, Nat.le_of_ble_eq_true rfl⟩) hG (va_recv (q0 := 0) (ci := 5) hG.1 hP rfl rfl) (hP) rfl rfl hl.1 dX5_sign_16 (Nat.le_of_ble_eq_true rfl) ⟨Nat.le_of_ble_eq_true rfl, Nat.le_of_ble_eq_true rfl⟩ ?_
    refine lv_istore (lv' := [(4, .int (nI (sgn σ k d p))), (0, .ref (m 0)), (1, .int (nI k)), (2, .int (nI d)), (3, .int (nI p))]) hx hb dX5_sign_19 hl (by decide) rfl (fun ls hl => ?_)
    refine lv_iload hx hb dX5_sign_21 (lv_at hl 0 rfl) ?_
    refine lv_bipush (v := nI 10) hx hb dX5_sign_23 (by decide) ?_
    refine lv_icmp_ne (tgt := 33) hx hb dX5_sign_25 (by decide) (fun h25 => ?_) (fun h25 => ?_)
    · skip
      have h25 : ¬ ((sgn σ k d p) = 10) := fun q => h25 ((nI_eq (by omega) (by omega)).mpr q)
      refine lv_iload hx hb dX5_sign_33 (lv_at hl 0 rfl) ?_
      exact hret _ _ _ _ _ dX5_sign_35 hS (hP) (by rw [zc_n h25])
    · skip
      have h25 : (sgn σ k d p) = 10 := (nI_eq (by omega) (by omega)).mp h25
      refine lv_bipush (v := (-4)) hx hb dX5_sign_28 (by decide) ?_
      refine lv_goto (tgt := 35) hx hb dX5_sign_30 (by decide) ?_
      exact hret _ _ _ _ _ dX5_sign_35 hS (hP) (by rw [h25, zc_b])
  · skip
    have h7 : ¬ ((0 ≤ (nI k) ∧ (nI k) < nI (nS σ)) ∧ (nI 0 ≤ (nI d) ∧ (nI d) ≤ nI 3) ∧ (nI 0 ≤ (nI p) ∧ (nI p) ≤ nI 9)) := (z_b0).mp h7
    exact absurd hvp h7
set_option maxHeartbeats 4000000 in
set_option maxRecDepth 100000 in
theorem kX5_meaning_inv (l : Launch) (G : zG) (m : Nat → Nat) (σ : Nat → Nat) (V : Nat → Nat → Nat) (ζ : Nat → Nat) (ns : Nat) (x : Nat → Nat) (len : Nat) (B : Nat → Int32) {N : Nat} (x1 : Int32) (x2 : Int32) (hO : Ok N σ) (hns : ns ≤ 4) (hv : ¬ ((0 ≤ x1 ∧ x1 < nI (nS σ)) ∧ (nI 0 ≤ x2 ∧ x2 ≤ nI 9))) (hd : va_D (fun _ => True) (wM G m σ V ζ ns x len B)) : Met l yX5_meaning wsX5_meaning (zRm 2 41) (zPc G [.ref (m 0), .int x1, .int x2] (va_P G.1 vwCl (wM G m σ V ζ ns x len B))) (zQ (zA (wM G m σ V ζ ns x len B)) (some (.int ((-1)))) (va_P G.1 vwCl (wM G m σ V ζ ns x len B))) 0 0 (zA (wM G m σ V ζ ns x len B)) := by
  refine zmkWi (w := (wM G m σ V ζ ns x len B)) hd (cc := cX5_meaning) (maxL := 3) (by decide) rfl (Nat.le_of_ble_eq_true rfl) ?_
  intro pr en st mi ar bl me cd ls Q hx hb hml hown hts hG hP hl hD hS hret
  have hown : st.vm.findClass RX5 = some mi.cls := hown
  have hl : lv_has ls 3 [(0, .ref (m 0)), (1, .int x1), (2, .int x2)] := hl
  have hP : va_P G.1 vwCl (wM G m σ V ζ ns x len B) st.heap := hP
  have hD : va_D (zA (wM G m σ V ζ ns x len B)) (wM G m σ V ζ ns x len B) := hD
  have hc := hO.c
  have hs := hO.lS
  have hr := hO.lR
  have hne := hO.lE
  refine lv_aload_n hx hb dX5_meaning_0 rfl (lv_at hl 0 rfl) ?_
  refine lv_iload_n hx hb dX5_meaning_1 rfl (lv_at hl 1 rfl) ?_
  refine zrdV (As := [.int x1]) ⟨hx, hb, hml, hown, hts⟩ (kX5_isSheet l G m σ V ζ ns x len B x1) (cwV 1 hts gX5_meaning_X5_isSheet rfl rfl rfl (by decide +kernel) ⟨Nat.le_of_ble_eq_true rfl, Nat.le_of_ble_eq_true rfl⟩) hG (va_recv (q0 := 0) (ci := 5) hG.1 hP rfl rfl) (hP) rfl rfl hl.1 dX5_meaning_2 (Nat.le_of_ble_eq_true rfl) ⟨Nat.le_of_ble_eq_true rfl, Nat.le_of_ble_eq_true rfl⟩ ?_
  refine lv_if_eq (tgt := 30) hx hb dX5_meaning_5 (by decide) (fun h5 => ?_) (fun h5 => ?_)
  · skip
    have h5 : ¬ (0 ≤ x1 ∧ x1 < nI (nS σ)) := (z_b0).mp h5
    refine lv_iconst (v := (-1)) hx hb dX5_meaning_30 (by decide) ?_
    exact hret _ _ _ _ _ dX5_meaning_31 hS (hP) (rfl)
  · skip
    have h5 : ¬ (¬ (0 ≤ x1 ∧ x1 < nI (nS σ))) := fun q => h5 ((z_b0).mpr q)
    have h5 : 0 ≤ x1 ∧ x1 < nI (nS σ) := Decidable.of_not_not h5
    refine lv_iload_n hx hb dX5_meaning_8 rfl (lv_at hl 2 rfl) ?_
    refine lv_iconst (v := nI 0) hx hb dX5_meaning_9 (by decide) ?_
    refine lv_bipush (v := nI 9) hx hb dX5_meaning_10 (by decide) ?_
    refine zrdS (As := [.int x2, .int (nI 0), .int (nI 9)]) ⟨hx, hb, hml, hown, hts⟩ (kX5_in l G  x2 (nI 0) (nI 9)) (va_cwS 3 hts gX5_meaning_X5_in rfl rfl rfl (by decide +kernel) ⟨Nat.le_of_ble_eq_true rfl, Nat.le_of_ble_eq_true rfl⟩) hG (trivial) rfl rfl hl.1 dX5_meaning_12 (Nat.le_of_ble_eq_true rfl) ⟨Nat.le_of_ble_eq_true rfl, Nat.le_of_ble_eq_true rfl⟩ ?_
    refine lv_if_eq (tgt := 30) hx hb dX5_meaning_15 (by decide) (fun h15 => ?_) (fun h15 => ?_)
    · skip
      have h15 : ¬ ((nI 0) ≤ x2 ∧ x2 ≤ (nI 9)) := (z_b0).mp h15
      refine lv_iconst (v := (-1)) hx hb dX5_meaning_30 (by decide) ?_
      exact hret _ _ _ _ _ dX5_meaning_31 hS (hP) (rfl)
    · skip
      have h15 : ¬ (¬ ((nI 0) ≤ x2 ∧ x2 ≤ (nI 9))) := fun q => h15 ((z_b0).mpr q)
      have h15 : (nI 0) ≤ x2 ∧ x2 ≤ (nI 9) := Decidable.of_not_not h15
      exact absurd ⟨h5, h15⟩ hv
set_option maxHeartbeats 4000000 in
set_option maxRecDepth 100000 in
theorem kX5_meaning_ok (l : Launch) (G : zG) (m : Nat → Nat) (σ : Nat → Nat) (V : Nat → Nat → Nat) (ζ : Nat → Nat) (ns : Nat) (x : Nat → Nat) (len : Nat) (B : Nat → Int32) {N : Nat} (k : Nat) (g : Nat) (hO : Ok N σ) (hns : ns ≤ 4) (hk : k < nS σ) (hg1 : g < 10) (hd : va_D (fun _ => True) (wM G m σ V ζ ns x len B)) : Met l yX5_meaning wsX5_meaning (zRm 2 41) (zPc G [.ref (m 0), .int (nI k), .int (nI g)] (va_P G.1 vwCl (wM G m σ V ζ ns x len B))) (zQ (zA (wM G m σ V ζ ns x len B)) (some (.int (nI (mng σ k g)))) (va_P G.1 vwCl (wM G m σ V ζ ns x len B))) 0 0 (zA (wM G m σ V ζ ns x len B)) := by
  refine zmkWi (w := (wM G m σ V ζ ns x len B)) hd (cc := cX5_meaning) (maxL := 3) (by decide) rfl (Nat.le_of_ble_eq_true rfl) ?_
  intro pr en st mi ar bl me cd ls Q hx hb hml hown hts hG hP hl hD hS hret
  have hown : st.vm.findClass RX5 = some mi.cls := hown
  have hl : lv_has ls 3 [(0, .ref (m 0)), (1, .int (nI k)), (2, .int (nI g))] := hl
  have hP : va_P G.1 vwCl (wM G m σ V ζ ns x len B) st.heap := hP
  have hD : va_D (zA (wM G m σ V ζ ns x len B)) (wM G m σ V ζ ns x len B) := hD
  have hc := hO.c
  have hs := hO.lS
  have hr := hO.lR
  have hne := hO.lE
  have hvs : 0 ≤ nI k ∧ nI k < nI (nS σ) := z_in hk (by omega)
  have hvg : nI 0 ≤ nI g ∧ nI g ≤ nI 9 := z_lem (by omega) (by omega)
  refine lv_aload_n hx hb dX5_meaning_0 rfl (lv_at hl 0 rfl) ?_
  refine lv_iload_n hx hb dX5_meaning_1 rfl (lv_at hl 1 rfl) ?_
  refine zrdV (As := [.int (nI k)]) ⟨hx, hb, hml, hown, hts⟩ (kX5_isSheet l G m σ V ζ ns x len B (nI k)) (cwV 1 hts gX5_meaning_X5_isSheet rfl rfl rfl (by decide +kernel) ⟨Nat.le_of_ble_eq_true rfl, Nat.le_of_ble_eq_true rfl⟩) hG (va_recv (q0 := 0) (ci := 5) hG.1 hP rfl rfl) (hP) rfl rfl hl.1 dX5_meaning_2 (Nat.le_of_ble_eq_true rfl) ⟨Nat.le_of_ble_eq_true rfl, Nat.le_of_ble_eq_true rfl⟩ ?_
  refine lv_if_eq (tgt := 30) hx hb dX5_meaning_5 (by decide) (fun h5 => ?_) (fun h5 => ?_)
  · skip
    have h5 : ¬ (0 ≤ (nI k) ∧ (nI k) < nI (nS σ)) := (z_b0).mp h5
    exact absurd hvs h5
  · skip
    have h5 : ¬ (¬ (0 ≤ (nI k) ∧ (nI k) < nI (nS σ))) := fun q => h5 ((z_b0).mpr q)
    have h5 : 0 ≤ (nI k) ∧ (nI k) < nI (nS σ) := Decidable.of_not_not h5
    refine lv_iload_n hx hb dX5_meaning_8 rfl (lv_at hl 2 rfl) ?_
    refine lv_iconst (v := nI 0) hx hb dX5_meaning_9 (by decide) ?_
    refine lv_bipush (v := nI 9) hx hb dX5_meaning_10 (by decide) ?_
    refine zrdS (As := [.int (nI g), .int (nI 0), .int (nI 9)]) ⟨hx, hb, hml, hown, hts⟩ (kX5_in l G  (nI g) (nI 0) (nI 9)) (va_cwS 3 hts gX5_meaning_X5_in rfl rfl rfl (by decide +kernel) ⟨Nat.le_of_ble_eq_true rfl, Nat.le_of_ble_eq_true rfl⟩) hG (trivial) rfl rfl hl.1 dX5_meaning_12 (Nat.le_of_ble_eq_true rfl) ⟨Nat.le_of_ble_eq_true rfl, Nat.le_of_ble_eq_true rfl⟩ ?_
    refine lv_if_eq (tgt := 30) hx hb dX5_meaning_15 (by decide) (fun h15 => ?_) (fun h15 => ?_)
    · skip
      have h15 : ¬ ((nI 0) ≤ (nI g) ∧ (nI g) ≤ (nI 9)) := (z_b0).mp h15
      exact absurd hvg h15
    · skip
      have h15 : ¬ (¬ ((nI 0) ≤ (nI g) ∧ (nI g) ≤ (nI 9))) := fun q => h15 ((z_b0).mpr q)
      have h15 : (nI 0) ≤ (nI g) ∧ (nI g) ≤ (nI 9) := Decidable.of_not_not h15
      refine lv_aload_n hx hb dX5_meaning_18 rfl (lv_at hl 0 rfl) ?_
      refine lv_iload_n hx hb dX5_meaning_19 rfl (lv_at hl 1 rfl) ?_
      refine lv_bipush (v := nI 40) hx hb dX5_meaning_20 (by decide) ?_
      refine lv_iload_n hx hb dX5_meaning_22 rfl (lv_at hl 2 rfl) ?_
      refine lv_iadd hx hb dX5_meaning_23 ?_
      refine lv_topi (nm_r (e' := nI (40 + g)) (nI_add _ _) ?_)
      refine zrdV (As := [.int (nI k), .int (nI (40 + g))]) ⟨hx, hb, hml, hown, hts⟩ (kX5_of l G m σ V ζ ns x len B k (40 + g) (by omega) (by omega) (by omega)) (cwV 2 hts gX5_meaning_X5_of rfl rfl rfl (by decide +kernel) ⟨Nat.le_of_ble_eq_true rfl, Nat.le_of_ble_eq_true rfl⟩) hG (va_recv (q0 := 0) (ci := 5) hG.1 hP rfl rfl) (hP) rfl rfl hl.1 dX5_meaning_24 (Nat.le_of_ble_eq_true rfl) ⟨Nat.le_of_ble_eq_true rfl, Nat.le_of_ble_eq_true rfl⟩ ?_
      refine lv_goto (tgt := 31) hx hb dX5_meaning_27 (by decide) ?_
      exact hret _ _ _ _ _ dX5_meaning_31 hS (hP) (congrArg nI (by unfold mng; rw [show 104 + 53 * k + g = 64 + 53 * k + (40 + g) by omega]))
set_option maxHeartbeats 4000000 in
set_option maxRecDepth 100000 in
theorem kX5_sheet_inv (l : Launch) (G : zG) (m : Nat → Nat) (σ : Nat → Nat) (V : Nat → Nat → Nat) (ζ : Nat → Nat) (ns : Nat) (x : Nat → Nat) (len : Nat) (B : Nat → Int32) {N : Nat} (x1 : Int32) (x2 : Int32) (hO : Ok N σ) (hns : ns ≤ 4) (hv : ¬ (0 ≤ x1 ∧ x1 < nI (nS σ))) (hd : va_D (fun _ => True) (wM G m σ V ζ ns x len B)) : Met l yX5_sheet wsX5_sheet (zRm 5 108) (zPc G [.ref (m 0), .int x1, .int x2] (va_P G.1 vwCl (wM G m σ V ζ ns x len B))) (zQ (zA (wM G m σ V ζ ns x len B)) (some (.int ((-1)))) (va_P G.1 vwCl (wM G m σ V ζ ns x len B))) 0 0 (zA (wM G m σ V ζ ns x len B)) := by
  refine zmkWi (w := (wM G m σ V ζ ns x len B)) hd (cc := cX5_sheet) (maxL := 3) (by decide) rfl (Nat.le_of_ble_eq_true rfl) ?_
  intro pr en st mi ar bl me cd ls Q hx hb hml hown hts hG hP hl hD hS hret
  have hown : st.vm.findClass RX5 = some mi.cls := hown
  have hl : lv_has ls 3 [(0, .ref (m 0)), (1, .int x1), (2, .int x2)] := hl
  have hP : va_P G.1 vwCl (wM G m σ V ζ ns x len B) st.heap := hP
  have hD : va_D (zA (wM G m σ V ζ ns x len B)) (wM G m σ V ζ ns x len B) := hD
  have hc := hO.c
  have hs := hO.lS
  have hr := hO.lR
  have hne := hO.lE
  refine lv_aload_n hx hb dX5_sheet_0 rfl (lv_at hl 0 rfl) ?_
  refine lv_iload_n hx hb dX5_sheet_1 rfl (lv_at hl 1 rfl) ?_
  refine zrdV (As := [.int x1]) ⟨hx, hb, hml, hown, hts⟩ (kX5_isSheet l G m σ V ζ ns x len B x1) (cwV 1 hts gX5_sheet_X5_isSheet rfl rfl rfl (by decide +kernel) ⟨Nat.le_of_ble_eq_true rfl, Nat.le_of_ble_eq_true rfl⟩) hG (va_recv (q0 := 0) (ci := 5) hG.1 hP rfl rfl) (hP) rfl rfl hl.1 dX5_sheet_2 (Nat.le_of_ble_eq_true rfl) ⟨Nat.le_of_ble_eq_true rfl, Nat.le_of_ble_eq_true rfl⟩ ?_
  refine lv_if_eq (tgt := 18) hx hb dX5_sheet_5 (by decide) (fun h5 => ?_) (fun h5 => ?_)
  · skip
    have h5 : ¬ (0 ≤ x1 ∧ x1 < nI (nS σ)) := (z_b0).mp h5
    refine lv_iconst (v := (-1)) hx hb dX5_sheet_18 (by decide) ?_
    exact hret _ _ _ _ _ dX5_sheet_19 hS (hP) (rfl)
  · skip
    have h5 : ¬ (¬ (0 ≤ x1 ∧ x1 < nI (nS σ))) := fun q => h5 ((z_b0).mpr q)
    have h5 : 0 ≤ x1 ∧ x1 < nI (nS σ) := Decidable.of_not_not h5
    exact absurd h5 hv
set_option maxHeartbeats 4000000 in
set_option maxRecDepth 100000 in
theorem kX5_sheet_what (l : Launch) (G : zG) (m : Nat → Nat) (σ : Nat → Nat) (V : Nat → Nat → Nat) (ζ : Nat → Nat) (ns : Nat) (x : Nat → Nat) (len : Nat) (B : Nat → Int32) {N : Nat} (k : Nat) (x2 : Int32) (hO : Ok N σ) (hns : ns ≤ 4) (hk : k < nS σ) (hv : ¬ (nI 0 ≤ x2 ∧ x2 ≤ nI 9)) (hd : va_D (fun _ => True) (wM G m σ V ζ ns x len B)) : Met l yX5_sheet wsX5_sheet (zRm 5 108) (zPc G [.ref (m 0), .int (nI k), .int x2] (va_P G.1 vwCl (wM G m σ V ζ ns x len B))) (zQ (zA (wM G m σ V ζ ns x len B)) (some (.int ((-1)))) (va_P G.1 vwCl (wM G m σ V ζ ns x len B))) 0 0 (zA (wM G m σ V ζ ns x len B)) := by
  refine zmkWi (w := (wM G m σ V ζ ns x len B)) hd (cc := cX5_sheet) (maxL := 3) (by decide) rfl (Nat.le_of_ble_eq_true rfl) ?_
  intro pr en st mi ar bl me cd ls Q hx hb hml hown hts hG hP hl hD hS hret
  have hown : st.vm.findClass RX5 = some mi.cls := hown
  have hl : lv_has ls 3 [(0, .ref (m 0)), (1, .int (nI k)), (2, .int x2)] := hl
  have hP : va_P G.1 vwCl (wM G m σ V ζ ns x len B) st.heap := hP
  have hD : va_D (zA (wM G m σ V ζ ns x len B)) (wM G m σ V ζ ns x len B) := hD
  have hc := hO.c
  have hs := hO.lS
  have hr := hO.lR
  have hne := hO.lE
  have hvs : 0 ≤ nI k ∧ nI k < nI (nS σ) := z_in hk (by omega)
  refine lv_aload_n hx hb dX5_sheet_0 rfl (lv_at hl 0 rfl) ?_
  refine lv_iload_n hx hb dX5_sheet_1 rfl (lv_at hl 1 rfl) ?_
  refine zrdV (As := [.int (nI k)]) ⟨hx, hb, hml, hown, hts⟩ (kX5_isSheet l G m σ V ζ ns x len B (nI k)) (cwV 1 hts gX5_sheet_X5_isSheet rfl rfl rfl (by decide +kernel) ⟨Nat.le_of_ble_eq_true rfl, Nat.le_of_ble_eq_true rfl⟩) hG (va_recv (q0 := 0) (ci := 5) hG.1 hP rfl rfl) (hP) rfl rfl hl.1 dX5_sheet_2 (Nat.le_of_ble_eq_true rfl) ⟨Nat.le_of_ble_eq_true rfl, Nat.le_of_ble_eq_true rfl⟩ ?_
  refine lv_if_eq (tgt := 18) hx hb dX5_sheet_5 (by decide) (fun h5 => ?_) (fun h5 => ?_)
  · skip
    have h5 : ¬ (0 ≤ (nI k) ∧ (nI k) < nI (nS σ)) := (z_b0).mp h5
    exact absurd hvs h5
  · skip
    have h5 : ¬ (¬ (0 ≤ (nI k) ∧ (nI k) < nI (nS σ))) := fun q => h5 ((z_b0).mpr q)
    have h5 : 0 ≤ (nI k) ∧ (nI k) < nI (nS σ) := Decidable.of_not_not h5
    refine lv_iload_n hx hb dX5_sheet_8 rfl (lv_at hl 2 rfl) ?_
    refine lv_iconst (v := nI 0) hx hb dX5_sheet_9 (by decide) ?_
    refine lv_bipush (v := nI 9) hx hb dX5_sheet_10 (by decide) ?_
    refine zrdS (As := [.int x2, .int (nI 0), .int (nI 9)]) ⟨hx, hb, hml, hown, hts⟩ (kX5_in l G  x2 (nI 0) (nI 9)) (va_cwS 3 hts gX5_sheet_X5_in rfl rfl rfl (by decide +kernel) ⟨Nat.le_of_ble_eq_true rfl, Nat.le_of_ble_eq_true rfl⟩) hG (trivial) rfl rfl hl.1 dX5_sheet_12 (Nat.le_of_ble_eq_true rfl) ⟨Nat.le_of_ble_eq_true rfl, Nat.le_of_ble_eq_true rfl⟩ ?_
    refine lv_if_ne (tgt := 20) hx hb dX5_sheet_15 (by decide) (fun h15 => ?_) (fun h15 => ?_)
    · skip
      have h15 : ¬ (¬ ((nI 0) ≤ x2 ∧ x2 ≤ (nI 9))) := fun q => h15 ((z_b0).mpr q)
      have h15 : (nI 0) ≤ x2 ∧ x2 ≤ (nI 9) := Decidable.of_not_not h15
      exact absurd h15 hv
    · skip
      have h15 : ¬ ((nI 0) ≤ x2 ∧ x2 ≤ (nI 9)) := (z_b0).mp h15
      refine lv_iconst (v := (-1)) hx hb dX5_sheet_18 (by decide) ?_
      exact hret _ _ _ _ _ dX5_sheet_19 hS (hP) (rfl)
set_option maxHeartbeats 4000000 in
set_option maxRecDepth 100000 in
theorem kX5_sheet_0 (l : Launch) (G : zG) (m : Nat → Nat) (σ : Nat → Nat) (V : Nat → Nat → Nat) (ζ : Nat → Nat) (ns : Nat) (x : Nat → Nat) (len : Nat) (B : Nat → Int32) {N : Nat} (k : Nat) (hO : Ok N σ) (hns : ns ≤ 4) (hk : k < nS σ) (hd : va_D (fun _ => True) (wM G m σ V ζ ns x len B)) : Met l yX5_sheet wsX5_sheet (zRm 5 108) (zPc G [.ref (m 0), .int (nI k), .int (nI 0)] (va_P G.1 vwCl (wM G m σ V ζ ns x len B))) (zQ (zA (wM G m σ V ζ ns x len B)) (some (.int (nI (k % σ 0)))) (va_P G.1 vwCl (wM G m σ V ζ ns x len B))) 0 0 (zA (wM G m σ V ζ ns x len B)) := by
  refine zmkWi (w := (wM G m σ V ζ ns x len B)) hd (cc := cX5_sheet) (maxL := 3) (by decide) rfl (Nat.le_of_ble_eq_true rfl) ?_
  intro pr en st mi ar bl me cd ls Q hx hb hml hown hts hG hP hl hD hS hret
  have hown : st.vm.findClass RX5 = some mi.cls := hown
  have hl : lv_has ls 3 [(0, .ref (m 0)), (1, .int (nI k)), (2, .int (nI 0))] := hl
  have hP : va_P G.1 vwCl (wM G m σ V ζ ns x len B) st.heap := hP
  have hD : va_D (zA (wM G m σ V ζ ns x len B)) (wM G m σ V ζ ns x len B) := hD
  have hinX5 : ∀ w ∈ wsX50, w ∈ wsX5_sheet := by decide +kernel
  have hf7 := hts (.fieldLink RX5 7 "MapSheetsModel" "s" "[I") (by decide +kernel)
  have hc := hO.c
  have hs := hO.lS
  have hr := hO.lR
  have hne := hO.lE
  have hvs : 0 ≤ nI k ∧ nI k < nI (nS σ) := z_in hk (by omega)
  have hvw : nI 0 ≤ nI 0 ∧ nI 0 ≤ nI 9 := by decide
  refine lv_aload_n hx hb dX5_sheet_0 rfl (lv_at hl 0 rfl) ?_
  refine lv_iload_n hx hb dX5_sheet_1 rfl (lv_at hl 1 rfl) ?_
  refine zrdV (As := [.int (nI k)]) ⟨hx, hb, hml, hown, hts⟩ (kX5_isSheet l G m σ V ζ ns x len B (nI k)) (cwV 1 hts gX5_sheet_X5_isSheet rfl rfl rfl (by decide +kernel) ⟨Nat.le_of_ble_eq_true rfl, Nat.le_of_ble_eq_true rfl⟩) hG (va_recv (q0 := 0) (ci := 5) hG.1 hP rfl rfl) (hP) rfl rfl hl.1 dX5_sheet_2 (Nat.le_of_ble_eq_true rfl) ⟨Nat.le_of_ble_eq_true rfl, Nat.le_of_ble_eq_true rfl⟩ ?_
  refine lv_if_eq (tgt := 18) hx hb dX5_sheet_5 (by decide) (fun h5 => ?_) (fun h5 => ?_)
  · skip
    have h5 : ¬ (0 ≤ (nI k) ∧ (nI k) < nI (nS σ)) := (z_b0).mp h5
    exact absurd hvs h5
  · skip
    have h5 : ¬ (¬ (0 ≤ (nI k) ∧ (nI k) < nI (nS σ))) := fun q => h5 ((z_b0).mpr q)
    have h5 : 0 ≤ (nI k) ∧ (nI k) < nI (nS σ) := Decidable.of_not_not h5
    refine lv_iload_n hx hb dX5_sheet_8 rfl (lv_at hl 2 rfl) ?_
    refine lv_iconst (v := nI 0) hx hb dX5_sheet_9 (by decide) ?_
    refine lv_bipush (v := nI 9) hx hb dX5_sheet_10 (by decide) ?_
    refine zrdS (As := [.int (nI 0), .int (nI 0), .int (nI 9)]) ⟨hx, hb, hml, hown, hts⟩ (kX5_in l G  (nI 0) (nI 0) (nI 9)) (va_cwS 3 hts gX5_sheet_X5_in rfl rfl rfl (by decide +kernel) ⟨Nat.le_of_ble_eq_true rfl, Nat.le_of_ble_eq_true rfl⟩) hG (trivial) rfl rfl hl.1 dX5_sheet_12 (Nat.le_of_ble_eq_true rfl) ⟨Nat.le_of_ble_eq_true rfl, Nat.le_of_ble_eq_true rfl⟩ ?_
    refine lv_if_ne (tgt := 20) hx hb dX5_sheet_15 (by decide) (fun h15 => ?_) (fun h15 => ?_)
    · skip
      have h15 : ¬ (¬ ((nI 0) ≤ (nI 0) ∧ (nI 0) ≤ (nI 9))) := fun q => h15 ((z_b0).mpr q)
      have h15 : (nI 0) ≤ (nI 0) ∧ (nI 0) ≤ (nI 9) := Decidable.of_not_not h15
      refine lv_iload_n hx hb dX5_sheet_20 rfl (lv_at hl 2 rfl) ?_
      refine lv_tableIn (off := 55) (tgt := 76) hx hb dX5_sheet_21 (by decide) (by decide) (by decide) (by decide) ?_
      refine lv_iload_n hx hb dX5_sheet_76 rfl (lv_at hl 1 rfl) ?_
      refine lv_aload_n hx hb dX5_sheet_77 rfl (lv_at hl 0 rfl) ?_
      refine va_get (D := G.1) (ci := 5) (v := .ref (m 1)) (C := RX5) (T := TX5) (N := 7) hx hb hts hinX5 hown hG.1 hP 0 rfl rfl 0 (by decide) hf7 (fun _ h9 => h9) rfl dX5_sheet_78 ?_
      refine lv_iconst (v := nI 0) hx hb dX5_sheet_81 (by decide) ?_
      refine va_iald hx hb hG.1 hP 1 0 rfl rfl (vp_in_nI (n := 0) (N := 1972) (by omega) (by omega)) dX5_sheet_82 ?_
      refine lv_topi (nm_r (e' := nI (σ 0)) (by rw [nI_clamp (by omega)]; exact sF_n (by omega)) ?_)
      refine lv_irem hx hb dX5_sheet_83 (nI_ne0 (by omega) (by omega)) ?_
      refine lv_topi (nm_r (e' := nI (k % (σ 0))) (pk_rem (by omega) (by omega) (by omega)) ?_)
      exact hret _ _ _ _ _ dX5_sheet_84 hS (hP) (congrArg nI (rfl))
    · skip
      have h15 : ¬ ((nI 0) ≤ (nI 0) ∧ (nI 0) ≤ (nI 9)) := (z_b0).mp h15
      exact absurd hvw h15
set_option maxHeartbeats 4000000 in
set_option maxRecDepth 100000 in
theorem kX5_sheet_1 (l : Launch) (G : zG) (m : Nat → Nat) (σ : Nat → Nat) (V : Nat → Nat → Nat) (ζ : Nat → Nat) (ns : Nat) (x : Nat → Nat) (len : Nat) (B : Nat → Int32) {N : Nat} (k : Nat) (hO : Ok N σ) (hns : ns ≤ 4) (hk : k < nS σ) (hd : va_D (fun _ => True) (wM G m σ V ζ ns x len B)) : Met l yX5_sheet wsX5_sheet (zRm 5 108) (zPc G [.ref (m 0), .int (nI k), .int (nI 1)] (va_P G.1 vwCl (wM G m σ V ζ ns x len B))) (zQ (zA (wM G m σ V ζ ns x len B)) (some (.int (nI (k / σ 0)))) (va_P G.1 vwCl (wM G m σ V ζ ns x len B))) 0 0 (zA (wM G m σ V ζ ns x len B)) := by
  refine zmkWi (w := (wM G m σ V ζ ns x len B)) hd (cc := cX5_sheet) (maxL := 3) (by decide) rfl (Nat.le_of_ble_eq_true rfl) ?_
  intro pr en st mi ar bl me cd ls Q hx hb hml hown hts hG hP hl hD hS hret
  have hown : st.vm.findClass RX5 = some mi.cls := hown
  have hl : lv_has ls 3 [(0, .ref (m 0)), (1, .int (nI k)), (2, .int (nI 1))] := hl
  have hP : va_P G.1 vwCl (wM G m σ V ζ ns x len B) st.heap := hP
  have hD : va_D (zA (wM G m σ V ζ ns x len B)) (wM G m σ V ζ ns x len B) := hD
  have hinX5 : ∀ w ∈ wsX50, w ∈ wsX5_sheet := by decide +kernel
  have hf7 := hts (.fieldLink RX5 7 "MapSheetsModel" "s" "[I") (by decide +kernel)
  have hc := hO.c
  have hs := hO.lS
  have hr := hO.lR
  have hne := hO.lE
  have hvs : 0 ≤ nI k ∧ nI k < nI (nS σ) := z_in hk (by omega)
  have hvw : nI 0 ≤ nI 1 ∧ nI 1 ≤ nI 9 := by decide
  refine lv_aload_n hx hb dX5_sheet_0 rfl (lv_at hl 0 rfl) ?_
  refine lv_iload_n hx hb dX5_sheet_1 rfl (lv_at hl 1 rfl) ?_
  refine zrdV (As := [.int (nI k)]) ⟨hx, hb, hml, hown, hts⟩ (kX5_isSheet l G m σ V ζ ns x len B (nI k)) (cwV 1 hts gX5_sheet_X5_isSheet rfl rfl rfl (by decide +kernel) ⟨Nat.le_of_ble_eq_true rfl, Nat.le_of_ble_eq_true rfl⟩) hG (va_recv (q0 := 0) (ci := 5) hG.1 hP rfl rfl) (hP) rfl rfl hl.1 dX5_sheet_2 (Nat.le_of_ble_eq_true rfl) ⟨Nat.le_of_ble_eq_true rfl, Nat.le_of_ble_eq_true rfl⟩ ?_
  refine lv_if_eq (tgt := 18) hx hb dX5_sheet_5 (by decide) (fun h5 => ?_) (fun h5 => ?_)
  · skip
    have h5 : ¬ (0 ≤ (nI k) ∧ (nI k) < nI (nS σ)) := (z_b0).mp h5
    exact absurd hvs h5
  · skip
    have h5 : ¬ (¬ (0 ≤ (nI k) ∧ (nI k) < nI (nS σ))) := fun q => h5 ((z_b0).mpr q)
    have h5 : 0 ≤ (nI k) ∧ (nI k) < nI (nS σ) := Decidable.of_not_not h5
    refine lv_iload_n hx hb dX5_sheet_8 rfl (lv_at hl 2 rfl) ?_
    refine lv_iconst (v := nI 0) hx hb dX5_sheet_9 (by decide) ?_
    refine lv_bipush (v := nI 9) hx hb dX5_sheet_10 (by decide) ?_
    refine zrdS (As := [.int (nI 1), .int (nI 0), .int (nI 9)]) ⟨hx, hb, hml, hown, hts⟩ (kX5_in l G  (nI 1) (nI 0) (nI 9)) (va_cwS 3 hts gX5_sheet_X5_in rfl rfl rfl (by decide +kernel) ⟨Nat.le_of_ble_eq_true rfl, Nat.le_of_ble_eq_true rfl⟩) hG (trivial) rfl rfl hl.1 dX5_sheet_12 (Nat.le_of_ble_eq_true rfl) ⟨Nat.le_of_ble_eq_true rfl, Nat.le_of_ble_eq_true rfl⟩ ?_
    refine lv_if_ne (tgt := 20) hx hb dX5_sheet_15 (by decide) (fun h15 => ?_) (fun h15 => ?_)
    · skip
      have h15 : ¬ (¬ ((nI 0) ≤ (nI 1) ∧ (nI 1) ≤ (nI 9))) := fun q => h15 ((z_b0).mpr q)
      have h15 : (nI 0) ≤ (nI 1) ∧ (nI 1) ≤ (nI 9) := Decidable.of_not_not h15
      refine lv_iload_n hx hb dX5_sheet_20 rfl (lv_at hl 2 rfl) ?_
      refine lv_tableIn (off := 64) (tgt := 85) hx hb dX5_sheet_21 (by decide) (by decide) (by decide) (by decide) ?_
      refine lv_iload_n hx hb dX5_sheet_85 rfl (lv_at hl 1 rfl) ?_
      refine lv_aload_n hx hb dX5_sheet_86 rfl (lv_at hl 0 rfl) ?_
      refine va_get (D := G.1) (ci := 5) (v := .ref (m 1)) (C := RX5) (T := TX5) (N := 7) hx hb hts hinX5 hown hG.1 hP 0 rfl rfl 0 (by decide) hf7 (fun _ h9 => h9) rfl dX5_sheet_87 ?_
      refine lv_iconst (v := nI 0) hx hb dX5_sheet_90 (by decide) ?_
      refine va_iald hx hb hG.1 hP 1 0 rfl rfl (vp_in_nI (n := 0) (N := 1972) (by omega) (by omega)) dX5_sheet_91 ?_
      refine lv_topi (nm_r (e' := nI (σ 0)) (by rw [nI_clamp (by omega)]; exact sF_n (by omega)) ?_)
      refine lv_idiv hx hb dX5_sheet_92 (nI_ne0 (by omega) (by omega)) ?_
      refine lv_topi (nm_r (e' := nI (k / (σ 0))) (pk_div (by omega) (by omega) (by omega)) ?_)
      exact hret _ _ _ _ _ dX5_sheet_93 hS (hP) (congrArg nI (rfl))
    · skip
      have h15 : ¬ ((nI 0) ≤ (nI 1) ∧ (nI 1) ≤ (nI 9)) := (z_b0).mp h15
      exact absurd hvw h15
set_option maxHeartbeats 4000000 in
set_option maxRecDepth 100000 in
theorem kX5_sheet_2 (l : Launch) (G : zG) (m : Nat → Nat) (σ : Nat → Nat) (V : Nat → Nat → Nat) (ζ : Nat → Nat) (ns : Nat) (x : Nat → Nat) (len : Nat) (B : Nat → Int32) {N : Nat} (k : Nat) (hO : Ok N σ) (hns : ns ≤ 4) (hk : k < nS σ) (hd : va_D (fun _ => True) (wM G m σ V ζ ns x len B)) : Met l yX5_sheet wsX5_sheet (zRm 5 108) (zPc G [.ref (m 0), .int (nI k), .int (nI 2)] (va_P G.1 vwCl (wM G m σ V ζ ns x len B))) (zQ (zA (wM G m σ V ζ ns x len B)) (some (.int (nI (nEd σ k)))) (va_P G.1 vwCl (wM G m σ V ζ ns x len B))) 0 0 (zA (wM G m σ V ζ ns x len B)) := by
  refine zmkWi (w := (wM G m σ V ζ ns x len B)) hd (cc := cX5_sheet) (maxL := 3) (by decide) rfl (Nat.le_of_ble_eq_true rfl) ?_
  intro pr en st mi ar bl me cd ls Q hx hb hml hown hts hG hP hl hD hS hret
  have hown : st.vm.findClass RX5 = some mi.cls := hown
  have hl : lv_has ls 3 [(0, .ref (m 0)), (1, .int (nI k)), (2, .int (nI 2))] := hl
  have hP : va_P G.1 vwCl (wM G m σ V ζ ns x len B) st.heap := hP
  have hD : va_D (zA (wM G m σ V ζ ns x len B)) (wM G m σ V ζ ns x len B) := hD
  have hc := hO.c
  have hs := hO.lS
  have hr := hO.lR
  have hne := hO.lE
  have hvs : 0 ≤ nI k ∧ nI k < nI (nS σ) := z_in hk (by omega)
  have hvw : nI 0 ≤ nI 2 ∧ nI 2 ≤ nI 9 := by decide
  refine lv_aload_n hx hb dX5_sheet_0 rfl (lv_at hl 0 rfl) ?_
  refine lv_iload_n hx hb dX5_sheet_1 rfl (lv_at hl 1 rfl) ?_
  refine zrdV (As := [.int (nI k)]) ⟨hx, hb, hml, hown, hts⟩ (kX5_isSheet l G m σ V ζ ns x len B (nI k)) (cwV 1 hts gX5_sheet_X5_isSheet rfl rfl rfl (by decide +kernel) ⟨Nat.le_of_ble_eq_true rfl, Nat.le_of_ble_eq_true rfl⟩) hG (va_recv (q0 := 0) (ci := 5) hG.1 hP rfl rfl) (hP) rfl rfl hl.1 dX5_sheet_2 (Nat.le_of_ble_eq_true rfl) ⟨Nat.le_of_ble_eq_true rfl, Nat.le_of_ble_eq_true rfl⟩ ?_
  refine lv_if_eq (tgt := 18) hx hb dX5_sheet_5 (by decide) (fun h5 => ?_) (fun h5 => ?_)
  · skip
    have h5 : ¬ (0 ≤ (nI k) ∧ (nI k) < nI (nS σ)) := (z_b0).mp h5
    exact absurd hvs h5
  · skip
    have h5 : ¬ (¬ (0 ≤ (nI k) ∧ (nI k) < nI (nS σ))) := fun q => h5 ((z_b0).mpr q)
    have h5 : 0 ≤ (nI k) ∧ (nI k) < nI (nS σ) := Decidable.of_not_not h5
    refine lv_iload_n hx hb dX5_sheet_8 rfl (lv_at hl 2 rfl) ?_
    refine lv_iconst (v := nI 0) hx hb dX5_sheet_9 (by decide) ?_
    refine lv_bipush (v := nI 9) hx hb dX5_sheet_10 (by decide) ?_
    refine zrdS (As := [.int (nI 2), .int (nI 0), .int (nI 9)]) ⟨hx, hb, hml, hown, hts⟩ (kX5_in l G  (nI 2) (nI 0) (nI 9)) (va_cwS 3 hts gX5_sheet_X5_in rfl rfl rfl (by decide +kernel) ⟨Nat.le_of_ble_eq_true rfl, Nat.le_of_ble_eq_true rfl⟩) hG (trivial) rfl rfl hl.1 dX5_sheet_12 (Nat.le_of_ble_eq_true rfl) ⟨Nat.le_of_ble_eq_true rfl, Nat.le_of_ble_eq_true rfl⟩ ?_
    refine lv_if_ne (tgt := 20) hx hb dX5_sheet_15 (by decide) (fun h15 => ?_) (fun h15 => ?_)
    · skip
      have h15 : ¬ (¬ ((nI 0) ≤ (nI 2) ∧ (nI 2) ≤ (nI 9))) := fun q => h15 ((z_b0).mpr q)
      have h15 : (nI 0) ≤ (nI 2) ∧ (nI 2) ≤ (nI 9) := Decidable.of_not_not h15
      refine lv_iload_n hx hb dX5_sheet_20 rfl (lv_at hl 2 rfl) ?_
      refine lv_tableIn (off := 73) (tgt := 94) hx hb dX5_sheet_21 (by decide) (by decide) (by decide) (by decide) ?_
      refine lv_aload_n hx hb dX5_sheet_94 rfl (lv_at hl 0 rfl) ?_
      refine lv_iload_n hx hb dX5_sheet_95 rfl (lv_at hl 1 rfl) ?_
      refine lv_iload_n hx hb dX5_sheet_96 rfl (lv_at hl 2 rfl) ?_
      refine lv_iconst (v := nI 3) hx hb dX5_sheet_97 (by decide) ?_
      refine lv_icmp_ne (tgt := 105) hx hb dX5_sheet_98 (by decide) (fun h98 => ?_) (fun h98 => ?_)
      · skip
        have h98 : ¬ (2 = 3) := fun q => h98 ((nI_eq (by omega) (by omega)).mpr q)
        refine lv_iconst (v := nI 0) hx hb dX5_sheet_105 (by decide) ?_
        refine zrdV (As := [.int (nI k), .int (nI 0)]) ⟨hx, hb, hml, hown, hts⟩ (kX5_edgesOf_0 l G m σ V ζ ns x len B k (hO) (by omega)) (cwV 2 hts gX5_sheet_X5_edgesOf rfl rfl rfl (by decide +kernel) ⟨Nat.le_of_ble_eq_true rfl, Nat.le_of_ble_eq_true rfl⟩) hG (va_recv (q0 := 0) (ci := 5) hG.1 hP rfl rfl) (hP) rfl rfl hl.1 dX5_sheet_106 (Nat.le_of_ble_eq_true rfl) ⟨Nat.le_of_ble_eq_true rfl, Nat.le_of_ble_eq_true rfl⟩ ?_
        exact hret _ _ _ _ _ dX5_sheet_109 hS (hP) (congrArg nI (rfl))
      · skip
        have h98 : 2 = 3 := (nI_eq (by omega) (by omega)).mp h98
        exfalso; omega
    · skip
      have h15 : ¬ ((nI 0) ≤ (nI 2) ∧ (nI 2) ≤ (nI 9)) := (z_b0).mp h15
      exact absurd hvw h15
set_option maxHeartbeats 4000000 in
set_option maxRecDepth 100000 in
theorem kX5_sheet_3 (l : Launch) (G : zG) (m : Nat → Nat) (σ : Nat → Nat) (V : Nat → Nat → Nat) (ζ : Nat → Nat) (ns : Nat) (x : Nat → Nat) (len : Nat) (B : Nat → Int32) {N : Nat} (k : Nat) (hO : Ok N σ) (hns : ns ≤ 4) (hk : k < nS σ) (hd : va_D (fun _ => True) (wM G m σ V ζ ns x len B)) : Met l yX5_sheet wsX5_sheet (zRm 5 108) (zPc G [.ref (m 0), .int (nI k), .int (nI 3)] (va_P G.1 vwCl (wM G m σ V ζ ns x len B))) (zQ (zA (wM G m σ V ζ ns x len B)) (some (.int (nI (nAd σ k)))) (va_P G.1 vwCl (wM G m σ V ζ ns x len B))) 0 0 (zA (wM G m σ V ζ ns x len B)) := by
  refine zmkWi (w := (wM G m σ V ζ ns x len B)) hd (cc := cX5_sheet) (maxL := 3) (by decide) rfl (Nat.le_of_ble_eq_true rfl) ?_
  intro pr en st mi ar bl me cd ls Q hx hb hml hown hts hG hP hl hD hS hret
  have hown : st.vm.findClass RX5 = some mi.cls := hown
  have hl : lv_has ls 3 [(0, .ref (m 0)), (1, .int (nI k)), (2, .int (nI 3))] := hl
  have hP : va_P G.1 vwCl (wM G m σ V ζ ns x len B) st.heap := hP
  have hD : va_D (zA (wM G m σ V ζ ns x len B)) (wM G m σ V ζ ns x len B) := hD
  have hc := hO.c
  have hs := hO.lS
  have hr := hO.lR
  have hne := hO.lE
  have hvs : 0 ≤ nI k ∧ nI k < nI (nS σ) := z_in hk (by omega)
  have hvw : nI 0 ≤ nI 3 ∧ nI 3 ≤ nI 9 := by decide
  refine lv_aload_n hx hb dX5_sheet_0 rfl (lv_at hl 0 rfl) ?_
  refine lv_iload_n hx hb dX5_sheet_1 rfl (lv_at hl 1 rfl) ?_
  refine zrdV (As := [.int (nI k)]) ⟨hx, hb, hml, hown, hts⟩ (kX5_isSheet l G m σ V ζ ns x len B (nI k)) (cwV 1 hts gX5_sheet_X5_isSheet rfl rfl rfl (by decide +kernel) ⟨Nat.le_of_ble_eq_true rfl, Nat.le_of_ble_eq_true rfl⟩) hG (va_recv (q0 := 0) (ci := 5) hG.1 hP rfl rfl) (hP) rfl rfl hl.1 dX5_sheet_2 (Nat.le_of_ble_eq_true rfl) ⟨Nat.le_of_ble_eq_true rfl, Nat.le_of_ble_eq_true rfl⟩ ?_
  refine lv_if_eq (tgt := 18) hx hb dX5_sheet_5 (by decide) (fun h5 => ?_) (fun h5 => ?_)
  · skip
    have h5 : ¬ (0 ≤ (nI k) ∧ (nI k) < nI (nS σ)) := (z_b0).mp h5
    exact absurd hvs h5
  · skip
    have h5 : ¬ (¬ (0 ≤ (nI k) ∧ (nI k) < nI (nS σ))) := fun q => h5 ((z_b0).mpr q)
    have h5 : 0 ≤ (nI k) ∧ (nI k) < nI (nS σ) := Decidable.of_not_not h5
    refine lv_iload_n hx hb dX5_sheet_8 rfl (lv_at hl 2 rfl) ?_
    refine lv_iconst (v := nI 0) hx hb dX5_sheet_9 (by decide) ?_
    refine lv_bipush (v := nI 9) hx hb dX5_sheet_10 (by decide) ?_
    refine zrdS (As := [.int (nI 3), .int (nI 0), .int (nI 9)]) ⟨hx, hb, hml, hown, hts⟩ (kX5_in l G  (nI 3) (nI 0) (nI 9)) (va_cwS 3 hts gX5_sheet_X5_in rfl rfl rfl (by decide +kernel) ⟨Nat.le_of_ble_eq_true rfl, Nat.le_of_ble_eq_true rfl⟩) hG (trivial) rfl rfl hl.1 dX5_sheet_12 (Nat.le_of_ble_eq_true rfl) ⟨Nat.le_of_ble_eq_true rfl, Nat.le_of_ble_eq_true rfl⟩ ?_
    refine lv_if_ne (tgt := 20) hx hb dX5_sheet_15 (by decide) (fun h15 => ?_) (fun h15 => ?_)
    · skip
      have h15 : ¬ (¬ ((nI 0) ≤ (nI 3) ∧ (nI 3) ≤ (nI 9))) := fun q => h15 ((z_b0).mpr q)
      have h15 : (nI 0) ≤ (nI 3) ∧ (nI 3) ≤ (nI 9) := Decidable.of_not_not h15
      refine lv_iload_n hx hb dX5_sheet_20 rfl (lv_at hl 2 rfl) ?_
      refine lv_tableIn (off := 73) (tgt := 94) hx hb dX5_sheet_21 (by decide) (by decide) (by decide) (by decide) ?_
      refine lv_aload_n hx hb dX5_sheet_94 rfl (lv_at hl 0 rfl) ?_
      refine lv_iload_n hx hb dX5_sheet_95 rfl (lv_at hl 1 rfl) ?_
      refine lv_iload_n hx hb dX5_sheet_96 rfl (lv_at hl 2 rfl) ?_
      refine lv_iconst (v := nI 3) hx hb dX5_sheet_97 (by decide) ?_
      refine lv_icmp_ne (tgt := 105) hx hb dX5_sheet_98 (by decide) (fun h98 => ?_) (fun h98 => ?_)
      · skip
        have h98 : ¬ (3 = 3) := fun q => h98 ((nI_eq (by omega) (by omega)).mpr q)
        exfalso; omega
      · skip
        have h98 : 3 = 3 := (nI_eq (by omega) (by omega)).mp h98
        refine lv_iconst (v := nI 1) hx hb dX5_sheet_101 (by decide) ?_
        refine lv_goto (tgt := 106) hx hb dX5_sheet_102 (by decide) ?_
        refine zrdV (As := [.int (nI k), .int (nI 1)]) ⟨hx, hb, hml, hown, hts⟩ (kX5_edgesOf_1 l G m σ V ζ ns x len B k (hO) (by omega)) (cwV 2 hts gX5_sheet_X5_edgesOf rfl rfl rfl (by decide +kernel) ⟨Nat.le_of_ble_eq_true rfl, Nat.le_of_ble_eq_true rfl⟩) hG (va_recv (q0 := 0) (ci := 5) hG.1 hP rfl rfl) (hP) rfl rfl hl.1 dX5_sheet_106 (Nat.le_of_ble_eq_true rfl) ⟨Nat.le_of_ble_eq_true rfl, Nat.le_of_ble_eq_true rfl⟩ ?_
        exact hret _ _ _ _ _ dX5_sheet_109 hS (hP) (congrArg nI (rfl))
    · skip
      have h15 : ¬ ((nI 0) ≤ (nI 3) ∧ (nI 3) ≤ (nI 9)) := (z_b0).mp h15
      exact absurd hvw h15
set_option maxHeartbeats 4000000 in
set_option maxRecDepth 100000 in
theorem kX5_sheet_4 (l : Launch) (G : zG) (m : Nat → Nat) (σ : Nat → Nat) (V : Nat → Nat → Nat) (ζ : Nat → Nat) (ns : Nat) (x : Nat → Nat) (len : Nat) (B : Nat → Int32) {N : Nat} (k : Nat) (hO : Ok N σ) (hns : ns ≤ 4) (hk : k < nS σ) (hd : va_D (fun _ => True) (wM G m σ V ζ ns x len B)) : Met l yX5_sheet wsX5_sheet (zRm 5 108) (zPc G [.ref (m 0), .int (nI k), .int (nI 4)] (va_P G.1 vwCl (wM G m σ V ζ ns x len B))) (zQ (zA (wM G m σ V ζ ns x len B)) (some (.int (nI (rvn σ k)))) (va_P G.1 vwCl (wM G m σ V ζ ns x len B))) 0 0 (zA (wM G m σ V ζ ns x len B)) := by
  refine zmkWi (w := (wM G m σ V ζ ns x len B)) hd (cc := cX5_sheet) (maxL := 3) (by decide) rfl (Nat.le_of_ble_eq_true rfl) ?_
  intro pr en st mi ar bl me cd ls Q hx hb hml hown hts hG hP hl hD hS hret
  have hown : st.vm.findClass RX5 = some mi.cls := hown
  have hl : lv_has ls 3 [(0, .ref (m 0)), (1, .int (nI k)), (2, .int (nI 4))] := hl
  have hP : va_P G.1 vwCl (wM G m σ V ζ ns x len B) st.heap := hP
  have hD : va_D (zA (wM G m σ V ζ ns x len B)) (wM G m σ V ζ ns x len B) := hD
  have hc := hO.c
  have hs := hO.lS
  have hr := hO.lR
  have hne := hO.lE
  have hvs : 0 ≤ nI k ∧ nI k < nI (nS σ) := z_in hk (by omega)
  have hvw : nI 0 ≤ nI 4 ∧ nI 4 ≤ nI 9 := by decide
  refine lv_aload_n hx hb dX5_sheet_0 rfl (lv_at hl 0 rfl) ?_
  refine lv_iload_n hx hb dX5_sheet_1 rfl (lv_at hl 1 rfl) ?_
  refine zrdV (As := [.int (nI k)]) ⟨hx, hb, hml, hown, hts⟩ (kX5_isSheet l G m σ V ζ ns x len B (nI k)) (cwV 1 hts gX5_sheet_X5_isSheet rfl rfl rfl (by decide +kernel) ⟨Nat.le_of_ble_eq_true rfl, Nat.le_of_ble_eq_true rfl⟩) hG (va_recv (q0 := 0) (ci := 5) hG.1 hP rfl rfl) (hP) rfl rfl hl.1 dX5_sheet_2 (Nat.le_of_ble_eq_true rfl) ⟨Nat.le_of_ble_eq_true rfl, Nat.le_of_ble_eq_true rfl⟩ ?_
  refine lv_if_eq (tgt := 18) hx hb dX5_sheet_5 (by decide) (fun h5 => ?_) (fun h5 => ?_)
  · skip
    have h5 : ¬ (0 ≤ (nI k) ∧ (nI k) < nI (nS σ)) := (z_b0).mp h5
    exact absurd hvs h5
  · skip
    have h5 : ¬ (¬ (0 ≤ (nI k) ∧ (nI k) < nI (nS σ))) := fun q => h5 ((z_b0).mpr q)
    have h5 : 0 ≤ (nI k) ∧ (nI k) < nI (nS σ) := Decidable.of_not_not h5
    refine lv_iload_n hx hb dX5_sheet_8 rfl (lv_at hl 2 rfl) ?_
    refine lv_iconst (v := nI 0) hx hb dX5_sheet_9 (by decide) ?_
    refine lv_bipush (v := nI 9) hx hb dX5_sheet_10 (by decide) ?_
    refine zrdS (As := [.int (nI 4), .int (nI 0), .int (nI 9)]) ⟨hx, hb, hml, hown, hts⟩ (kX5_in l G  (nI 4) (nI 0) (nI 9)) (va_cwS 3 hts gX5_sheet_X5_in rfl rfl rfl (by decide +kernel) ⟨Nat.le_of_ble_eq_true rfl, Nat.le_of_ble_eq_true rfl⟩) hG (trivial) rfl rfl hl.1 dX5_sheet_12 (Nat.le_of_ble_eq_true rfl) ⟨Nat.le_of_ble_eq_true rfl, Nat.le_of_ble_eq_true rfl⟩ ?_
    refine lv_if_ne (tgt := 20) hx hb dX5_sheet_15 (by decide) (fun h15 => ?_) (fun h15 => ?_)
    · skip
      have h15 : ¬ (¬ ((nI 0) ≤ (nI 4) ∧ (nI 4) ≤ (nI 9))) := fun q => h15 ((z_b0).mpr q)
      have h15 : (nI 0) ≤ (nI 4) ∧ (nI 4) ≤ (nI 9) := Decidable.of_not_not h15
      refine lv_iload_n hx hb dX5_sheet_20 rfl (lv_at hl 2 rfl) ?_
      refine lv_tableIn (off := 123) (tgt := 144) hx hb dX5_sheet_21 (by decide) (by decide) (by decide) (by decide) ?_
      refine lv_aload_n hx hb dX5_sheet_144 rfl (lv_at hl 0 rfl) ?_
      refine lv_iload_n hx hb dX5_sheet_145 rfl (lv_at hl 1 rfl) ?_
      refine lv_bipush (v := nI 50) hx hb dX5_sheet_146 (by decide) ?_
      refine lv_iload_n hx hb dX5_sheet_148 rfl (lv_at hl 2 rfl) ?_
      refine lv_iadd hx hb dX5_sheet_149 ?_
      refine lv_topi (nm_r (e' := nI (50 + 4)) (nI_add _ _) ?_)
      refine lv_iconst (v := nI 4) hx hb dX5_sheet_150 (by decide) ?_
      refine lv_isub hx hb dX5_sheet_151 ?_
      refine lv_topi (nm_r (e' := nI ((50 + 4) - 4)) (pk_sub (by omega)) ?_)
      refine lv_topi (nm_r (e' := nI 50) (rfl) ?_)
      refine zrdV (As := [.int (nI k), .int (nI 50)]) ⟨hx, hb, hml, hown, hts⟩ (kX5_of l G m σ V ζ ns x len B k 50 (by omega) (by omega) (by omega)) (cwV 2 hts gX5_sheet_X5_of rfl rfl rfl (by decide +kernel) ⟨Nat.le_of_ble_eq_true rfl, Nat.le_of_ble_eq_true rfl⟩) hG (va_recv (q0 := 0) (ci := 5) hG.1 hP rfl rfl) (hP) rfl rfl hl.1 dX5_sheet_152 (Nat.le_of_ble_eq_true rfl) ⟨Nat.le_of_ble_eq_true rfl, Nat.le_of_ble_eq_true rfl⟩ ?_
      exact hret _ _ _ _ _ dX5_sheet_155 hS (hP) (congrArg nI (by unfold rvn; rw [show 114 + 53 * k = 64 + 53 * k + 50 by omega]))
    · skip
      have h15 : ¬ ((nI 0) ≤ (nI 4) ∧ (nI 4) ≤ (nI 9)) := (z_b0).mp h15
      exact absurd hvw h15
set_option maxHeartbeats 4000000 in
set_option maxRecDepth 100000 in
theorem kX5_sheet_5 (l : Launch) (G : zG) (m : Nat → Nat) (σ : Nat → Nat) (V : Nat → Nat → Nat) (ζ : Nat → Nat) (ns : Nat) (x : Nat → Nat) (len : Nat) (B : Nat → Int32) {N : Nat} (k : Nat) (hO : Ok N σ) (hns : ns ≤ 4) (hk : k < nS σ) (hd : va_D (fun _ => True) (wM G m σ V ζ ns x len B)) : Met l yX5_sheet wsX5_sheet (zRm 5 108) (zPc G [.ref (m 0), .int (nI k), .int (nI 5)] (va_P G.1 vwCl (wM G m σ V ζ ns x len B))) (zQ (zA (wM G m σ V ζ ns x len B)) (some (.int (zc4 (pbn σ k)))) (va_P G.1 vwCl (wM G m σ V ζ ns x len B))) 0 0 (zA (wM G m σ V ζ ns x len B)) := by
  refine zmkWi (w := (wM G m σ V ζ ns x len B)) hd (cc := cX5_sheet) (maxL := 3) (by decide) rfl (Nat.le_of_ble_eq_true rfl) ?_
  intro pr en st mi ar bl me cd ls Q hx hb hml hown hts hG hP hl hD hS hret
  have hown : st.vm.findClass RX5 = some mi.cls := hown
  have hl : lv_has ls 3 [(0, .ref (m 0)), (1, .int (nI k)), (2, .int (nI 5))] := hl
  have hP : va_P G.1 vwCl (wM G m σ V ζ ns x len B) st.heap := hP
  have hD : va_D (zA (wM G m σ V ζ ns x len B)) (wM G m σ V ζ ns x len B) := hD
  have hc := hO.c
  have hs := hO.lS
  have hr := hO.lR
  have hne := hO.lE
  have hvs : 0 ≤ nI k ∧ nI k < nI (nS σ) := z_in hk (by omega)
  have hvw : nI 0 ≤ nI 5 ∧ nI 5 ≤ nI 9 := by decide
  refine lv_aload_n hx hb dX5_sheet_0 rfl (lv_at hl 0 rfl) ?_
  refine lv_iload_n hx hb dX5_sheet_1 rfl (lv_at hl 1 rfl) ?_
  refine zrdV (As := [.int (nI k)]) ⟨hx, hb, hml, hown, hts⟩ (kX5_isSheet l G m σ V ζ ns x len B (nI k)) (cwV 1 hts gX5_sheet_X5_isSheet rfl rfl rfl (by decide +kernel) ⟨Nat.le_of_ble_eq_true rfl, Nat.le_of_ble_eq_true rfl⟩) hG (va_recv (q0 := 0) (ci := 5) hG.1 hP rfl rfl) (hP) rfl rfl hl.1 dX5_sheet_2 (Nat.le_of_ble_eq_true rfl) ⟨Nat.le_of_ble_eq_true rfl, Nat.le_of_ble_eq_true rfl⟩ ?_
  refine lv_if_eq (tgt := 18) hx hb dX5_sheet_5 (by decide) (fun h5 => ?_) (fun h5 => ?_)
  · skip
    have h5 : ¬ (0 ≤ (nI k) ∧ (nI k) < nI (nS σ)) := (z_b0).mp h5
    exact absurd hvs h5
  · skip
    have h5 : ¬ (¬ (0 ≤ (nI k) ∧ (nI k) < nI (nS σ))) := fun q => h5 ((z_b0).mpr q)
    have h5 : 0 ≤ (nI k) ∧ (nI k) < nI (nS σ) := Decidable.of_not_not h5
    refine lv_iload_n hx hb dX5_sheet_8 rfl (lv_at hl 2 rfl) ?_
    refine lv_iconst (v := nI 0) hx hb dX5_sheet_9 (by decide) ?_
    refine lv_bipush (v := nI 9) hx hb dX5_sheet_10 (by decide) ?_
    refine zrdS (As := [.int (nI 5), .int (nI 0), .int (nI 9)]) ⟨hx, hb, hml, hown, hts⟩ (kX5_in l G  (nI 5) (nI 0) (nI 9)) (va_cwS 3 hts gX5_sheet_X5_in rfl rfl rfl (by decide +kernel) ⟨Nat.le_of_ble_eq_true rfl, Nat.le_of_ble_eq_true rfl⟩) hG (trivial) rfl rfl hl.1 dX5_sheet_12 (Nat.le_of_ble_eq_true rfl) ⟨Nat.le_of_ble_eq_true rfl, Nat.le_of_ble_eq_true rfl⟩ ?_
    refine lv_if_ne (tgt := 20) hx hb dX5_sheet_15 (by decide) (fun h15 => ?_) (fun h15 => ?_)
    · skip
      have h15 : ¬ (¬ ((nI 0) ≤ (nI 5) ∧ (nI 5) ≤ (nI 9))) := fun q => h15 ((z_b0).mpr q)
      have h15 : (nI 0) ≤ (nI 5) ∧ (nI 5) ≤ (nI 9) := Decidable.of_not_not h15
      refine lv_iload_n hx hb dX5_sheet_20 rfl (lv_at hl 2 rfl) ?_
      refine lv_tableIn (off := 123) (tgt := 144) hx hb dX5_sheet_21 (by decide) (by decide) (by decide) (by decide) ?_
      refine lv_aload_n hx hb dX5_sheet_144 rfl (lv_at hl 0 rfl) ?_
      refine lv_iload_n hx hb dX5_sheet_145 rfl (lv_at hl 1 rfl) ?_
      refine lv_bipush (v := nI 50) hx hb dX5_sheet_146 (by decide) ?_
      refine lv_iload_n hx hb dX5_sheet_148 rfl (lv_at hl 2 rfl) ?_
      refine lv_iadd hx hb dX5_sheet_149 ?_
      refine lv_topi (nm_r (e' := nI (50 + 5)) (nI_add _ _) ?_)
      refine lv_iconst (v := nI 4) hx hb dX5_sheet_150 (by decide) ?_
      refine lv_isub hx hb dX5_sheet_151 ?_
      refine lv_topi (nm_r (e' := nI ((50 + 5) - 4)) (pk_sub (by omega)) ?_)
      refine lv_topi (nm_r (e' := nI 51) (rfl) ?_)
      refine zrdV (As := [.int (nI k), .int (nI 51)]) ⟨hx, hb, hml, hown, hts⟩ (kX5_of_p l G m σ V ζ ns x len B k (by omega)) (cwV 2 hts gX5_sheet_X5_of rfl rfl rfl (by decide +kernel) ⟨Nat.le_of_ble_eq_true rfl, Nat.le_of_ble_eq_true rfl⟩) hG (va_recv (q0 := 0) (ci := 5) hG.1 hP rfl rfl) (hP) rfl rfl hl.1 dX5_sheet_152 (Nat.le_of_ble_eq_true rfl) ⟨Nat.le_of_ble_eq_true rfl, Nat.le_of_ble_eq_true rfl⟩ ?_
      exact hret _ _ _ _ _ dX5_sheet_155 hS (hP) (rfl)
    · skip
      have h15 : ¬ ((nI 0) ≤ (nI 5) ∧ (nI 5) ≤ (nI 9)) := (z_b0).mp h15
      exact absurd hvw h15
set_option maxHeartbeats 4000000 in
set_option maxRecDepth 100000 in
theorem kX5_sheet_6 (l : Launch) (G : zG) (m : Nat → Nat) (σ : Nat → Nat) (V : Nat → Nat → Nat) (ζ : Nat → Nat) (ns : Nat) (x : Nat → Nat) (len : Nat) (B : Nat → Int32) {N : Nat} (k : Nat) (hO : Ok N σ) (hns : ns ≤ 4) (hk : k < nS σ) (hd : va_D (fun _ => True) (wM G m σ V ζ ns x len B)) : Met l yX5_sheet wsX5_sheet (zRm 5 108) (zPc G [.ref (m 0), .int (nI k), .int (nI 6)] (va_P G.1 vwCl (wM G m σ V ζ ns x len B))) (zQ (zA (wM G m σ V ζ ns x len B)) (some (.int (if pbn σ k = rvn σ k + 1 then nI 1 else nI 0))) (va_P G.1 vwCl (wM G m σ V ζ ns x len B))) 0 0 (zA (wM G m σ V ζ ns x len B)) := by
  refine zmkWi (w := (wM G m σ V ζ ns x len B)) hd (cc := cX5_sheet) (maxL := 3) (by decide) rfl (Nat.le_of_ble_eq_true rfl) ?_
  intro pr en st mi ar bl me cd ls Q hx hb hml hown hts hG hP hl hD hS hret
  have hown : st.vm.findClass RX5 = some mi.cls := hown
  have hl : lv_has ls 3 [(0, .ref (m 0)), (1, .int (nI k)), (2, .int (nI 6))] := hl
  have hP : va_P G.1 vwCl (wM G m σ V ζ ns x len B) st.heap := hP
  have hD : va_D (zA (wM G m σ V ζ ns x len B)) (wM G m σ V ζ ns x len B) := hD
  have hc := hO.c
  have hs := hO.lS
  have hr := hO.lR
  have hne := hO.lE
  have hvs : 0 ≤ nI k ∧ nI k < nI (nS σ) := z_in hk (by omega)
  have hvw : nI 0 ≤ nI 6 ∧ nI 6 ≤ nI 9 := by decide
  refine lv_aload_n hx hb dX5_sheet_0 rfl (lv_at hl 0 rfl) ?_
  refine lv_iload_n hx hb dX5_sheet_1 rfl (lv_at hl 1 rfl) ?_
  refine zrdV (As := [.int (nI k)]) ⟨hx, hb, hml, hown, hts⟩ (kX5_isSheet l G m σ V ζ ns x len B (nI k)) (cwV 1 hts gX5_sheet_X5_isSheet rfl rfl rfl (by decide +kernel) ⟨Nat.le_of_ble_eq_true rfl, Nat.le_of_ble_eq_true rfl⟩) hG (va_recv (q0 := 0) (ci := 5) hG.1 hP rfl rfl) (hP) rfl rfl hl.1 dX5_sheet_2 (Nat.le_of_ble_eq_true rfl) ⟨Nat.le_of_ble_eq_true rfl, Nat.le_of_ble_eq_true rfl⟩ ?_
  refine lv_if_eq (tgt := 18) hx hb dX5_sheet_5 (by decide) (fun h5 => ?_) (fun h5 => ?_)
  · skip
    have h5 : ¬ (0 ≤ (nI k) ∧ (nI k) < nI (nS σ)) := (z_b0).mp h5
    exact absurd hvs h5
  · skip
    have h5 : ¬ (¬ (0 ≤ (nI k) ∧ (nI k) < nI (nS σ))) := fun q => h5 ((z_b0).mpr q)
    have h5 : 0 ≤ (nI k) ∧ (nI k) < nI (nS σ) := Decidable.of_not_not h5
    refine lv_iload_n hx hb dX5_sheet_8 rfl (lv_at hl 2 rfl) ?_
    refine lv_iconst (v := nI 0) hx hb dX5_sheet_9 (by decide) ?_
    refine lv_bipush (v := nI 9) hx hb dX5_sheet_10 (by decide) ?_
    refine zrdS (As := [.int (nI 6), .int (nI 0), .int (nI 9)]) ⟨hx, hb, hml, hown, hts⟩ (kX5_in l G  (nI 6) (nI 0) (nI 9)) (va_cwS 3 hts gX5_sheet_X5_in rfl rfl rfl (by decide +kernel) ⟨Nat.le_of_ble_eq_true rfl, Nat.le_of_ble_eq_true rfl⟩) hG (trivial) rfl rfl hl.1 dX5_sheet_12 (Nat.le_of_ble_eq_true rfl) ⟨Nat.le_of_ble_eq_true rfl, Nat.le_of_ble_eq_true rfl⟩ ?_
    refine lv_if_ne (tgt := 20) hx hb dX5_sheet_15 (by decide) (fun h15 => ?_) (fun h15 => ?_)
    · skip
      have h15 : ¬ (¬ ((nI 0) ≤ (nI 6) ∧ (nI 6) ≤ (nI 9))) := fun q => h15 ((z_b0).mpr q)
      have h15 : (nI 0) ≤ (nI 6) ∧ (nI 6) ≤ (nI 9) := Decidable.of_not_not h15
      refine lv_iload_n hx hb dX5_sheet_20 rfl (lv_at hl 2 rfl) ?_
      refine lv_tableIn (off := 89) (tgt := 110) hx hb dX5_sheet_21 (by decide) (by decide) (by decide) (by decide) ?_
      refine lv_aload_n hx hb dX5_sheet_110 rfl (lv_at hl 0 rfl) ?_
      refine lv_iload_n hx hb dX5_sheet_111 rfl (lv_at hl 1 rfl) ?_
      refine zrdV (As := [.int (nI k)]) ⟨hx, hb, hml, hown, hts⟩ (kX5_isUpToDate l G m σ V ζ ns x len B k (hO) (by omega)) (cwV 1 hts gX5_sheet_X5_isUpToDate rfl rfl rfl (by decide +kernel) ⟨Nat.le_of_ble_eq_true rfl, Nat.le_of_ble_eq_true rfl⟩) hG (va_recv (q0 := 0) (ci := 5) hG.1 hP rfl rfl) (hP) rfl rfl hl.1 dX5_sheet_112 (Nat.le_of_ble_eq_true rfl) ⟨Nat.le_of_ble_eq_true rfl, Nat.le_of_ble_eq_true rfl⟩ ?_
      refine lv_if_eq (tgt := 122) hx hb dX5_sheet_115 (by decide) (fun h115 => ?_) (fun h115 => ?_)
      · skip
        have h115 : ¬ (pbn σ k = rvn σ k + 1) := (z_b0).mp h115
        refine lv_iconst (v := nI 0) hx hb dX5_sheet_122 (by decide) ?_
        exact hret _ _ _ _ _ dX5_sheet_123 hS (hP) (by rw [if_neg h115])
      · skip
        have h115 : ¬ (¬ (pbn σ k = rvn σ k + 1)) := fun q => h115 ((z_b0).mpr q)
        have h115 : pbn σ k = rvn σ k + 1 := Decidable.of_not_not h115
        refine lv_iconst (v := nI 1) hx hb dX5_sheet_118 (by decide) ?_
        refine lv_goto (tgt := 123) hx hb dX5_sheet_119 (by decide) ?_
        exact hret _ _ _ _ _ dX5_sheet_123 hS (hP) (by rw [if_pos h115])
    · skip
      have h15 : ¬ ((nI 0) ≤ (nI 6) ∧ (nI 6) ≤ (nI 9)) := (z_b0).mp h15
      exact absurd hvw h15
set_option maxHeartbeats 4000000 in
set_option maxRecDepth 100000 in
theorem kX5_sheet_7 (l : Launch) (G : zG) (m : Nat → Nat) (σ : Nat → Nat) (V : Nat → Nat → Nat) (ζ : Nat → Nat) (ns : Nat) (x : Nat → Nat) (len : Nat) (B : Nat → Int32) {N : Nat} (k : Nat) (hO : Ok N σ) (hns : ns ≤ 4) (hk : k < nS σ) (hd : va_D (fun _ => True) (wM G m σ V ζ ns x len B)) : Met l yX5_sheet wsX5_sheet (zRm 5 108) (zPc G [.ref (m 0), .int (nI k), .int (nI 7)] (va_P G.1 vwCl (wM G m σ V ζ ns x len B))) (zQ (zA (wM G m σ V ζ ns x len B)) (some (.int (nI (scn σ k)))) (va_P G.1 vwCl (wM G m σ V ζ ns x len B))) 0 0 (zA (wM G m σ V ζ ns x len B)) := by
  refine zmkWi (w := (wM G m σ V ζ ns x len B)) hd (cc := cX5_sheet) (maxL := 3) (by decide) rfl (Nat.le_of_ble_eq_true rfl) ?_
  intro pr en st mi ar bl me cd ls Q hx hb hml hown hts hG hP hl hD hS hret
  have hown : st.vm.findClass RX5 = some mi.cls := hown
  have hl : lv_has ls 3 [(0, .ref (m 0)), (1, .int (nI k)), (2, .int (nI 7))] := hl
  have hP : va_P G.1 vwCl (wM G m σ V ζ ns x len B) st.heap := hP
  have hD : va_D (zA (wM G m σ V ζ ns x len B)) (wM G m σ V ζ ns x len B) := hD
  have hc := hO.c
  have hs := hO.lS
  have hr := hO.lR
  have hne := hO.lE
  have hvs : 0 ≤ nI k ∧ nI k < nI (nS σ) := z_in hk (by omega)
  have hvw : nI 0 ≤ nI 7 ∧ nI 7 ≤ nI 9 := by decide
  refine lv_aload_n hx hb dX5_sheet_0 rfl (lv_at hl 0 rfl) ?_
  refine lv_iload_n hx hb dX5_sheet_1 rfl (lv_at hl 1 rfl) ?_
  refine zrdV (As := [.int (nI k)]) ⟨hx, hb, hml, hown, hts⟩ (kX5_isSheet l G m σ V ζ ns x len B (nI k)) (cwV 1 hts gX5_sheet_X5_isSheet rfl rfl rfl (by decide +kernel) ⟨Nat.le_of_ble_eq_true rfl, Nat.le_of_ble_eq_true rfl⟩) hG (va_recv (q0 := 0) (ci := 5) hG.1 hP rfl rfl) (hP) rfl rfl hl.1 dX5_sheet_2 (Nat.le_of_ble_eq_true rfl) ⟨Nat.le_of_ble_eq_true rfl, Nat.le_of_ble_eq_true rfl⟩ ?_
  refine lv_if_eq (tgt := 18) hx hb dX5_sheet_5 (by decide) (fun h5 => ?_) (fun h5 => ?_)
  · skip
    have h5 : ¬ (0 ≤ (nI k) ∧ (nI k) < nI (nS σ)) := (z_b0).mp h5
    exact absurd hvs h5
  · skip
    have h5 : ¬ (¬ (0 ≤ (nI k) ∧ (nI k) < nI (nS σ))) := fun q => h5 ((z_b0).mpr q)
    have h5 : 0 ≤ (nI k) ∧ (nI k) < nI (nS σ) := Decidable.of_not_not h5
    refine lv_iload_n hx hb dX5_sheet_8 rfl (lv_at hl 2 rfl) ?_
    refine lv_iconst (v := nI 0) hx hb dX5_sheet_9 (by decide) ?_
    refine lv_bipush (v := nI 9) hx hb dX5_sheet_10 (by decide) ?_
    refine zrdS (As := [.int (nI 7), .int (nI 0), .int (nI 9)]) ⟨hx, hb, hml, hown, hts⟩ (kX5_in l G  (nI 7) (nI 0) (nI 9)) (va_cwS 3 hts gX5_sheet_X5_in rfl rfl rfl (by decide +kernel) ⟨Nat.le_of_ble_eq_true rfl, Nat.le_of_ble_eq_true rfl⟩) hG (trivial) rfl rfl hl.1 dX5_sheet_12 (Nat.le_of_ble_eq_true rfl) ⟨Nat.le_of_ble_eq_true rfl, Nat.le_of_ble_eq_true rfl⟩ ?_
    refine lv_if_ne (tgt := 20) hx hb dX5_sheet_15 (by decide) (fun h15 => ?_) (fun h15 => ?_)
    · skip
      have h15 : ¬ (¬ ((nI 0) ≤ (nI 7) ∧ (nI 7) ≤ (nI 9))) := fun q => h15 ((z_b0).mpr q)
      have h15 : (nI 0) ≤ (nI 7) ∧ (nI 7) ≤ (nI 9) := Decidable.of_not_not h15
      refine lv_iload_n hx hb dX5_sheet_20 rfl (lv_at hl 2 rfl) ?_
      refine lv_tableIn (off := 103) (tgt := 124) hx hb dX5_sheet_21 (by decide) (by decide) (by decide) (by decide) ?_
      refine lv_aload_n hx hb dX5_sheet_124 rfl (lv_at hl 0 rfl) ?_
      refine lv_iload_n hx hb dX5_sheet_125 rfl (lv_at hl 1 rfl) ?_
      refine lv_bipush (v := nI 52) hx hb dX5_sheet_126 (by decide) ?_
      refine zrdV (As := [.int (nI k), .int (nI 52)]) ⟨hx, hb, hml, hown, hts⟩ (kX5_of l G m σ V ζ ns x len B k 52 (by omega) (by omega) (by omega)) (cwV 2 hts gX5_sheet_X5_of rfl rfl rfl (by decide +kernel) ⟨Nat.le_of_ble_eq_true rfl, Nat.le_of_ble_eq_true rfl⟩) hG (va_recv (q0 := 0) (ci := 5) hG.1 hP rfl rfl) (hP) rfl rfl hl.1 dX5_sheet_128 (Nat.le_of_ble_eq_true rfl) ⟨Nat.le_of_ble_eq_true rfl, Nat.le_of_ble_eq_true rfl⟩ ?_
      exact hret _ _ _ _ _ dX5_sheet_131 hS (hP) (congrArg nI (by unfold scn; rw [show 116 + 53 * k = 64 + 53 * k + 52 by omega]))
    · skip
      have h15 : ¬ ((nI 0) ≤ (nI 7) ∧ (nI 7) ≤ (nI 9)) := (z_b0).mp h15
      exact absurd hvw h15
set_option maxHeartbeats 4000000 in
set_option maxRecDepth 100000 in
theorem kX5_sheet_8 (l : Launch) (G : zG) (m : Nat → Nat) (σ : Nat → Nat) (V : Nat → Nat → Nat) (ζ : Nat → Nat) (ns : Nat) (x : Nat → Nat) (len : Nat) (B : Nat → Int32) {N : Nat} (k : Nat) (hO : Ok N σ) (hns : ns ≤ 4) (hk : k < nS σ) (hd : va_D (fun _ => True) (wM G m σ V ζ ns x len B)) : Met l yX5_sheet wsX5_sheet (zRm 5 108) (zPc G [.ref (m 0), .int (nI k), .int (nI 8)] (va_P G.1 vwCl (wM G m σ V ζ ns x len B))) (zQ (zA (wM G m σ V ζ ns x len B)) (some (.int (nI (sgs σ k)))) (va_P G.1 vwCl (wM G m σ V ζ ns x len B))) 0 0 (zA (wM G m σ V ζ ns x len B)) := by
  refine zmkWi (w := (wM G m σ V ζ ns x len B)) hd (cc := cX5_sheet) (maxL := 3) (by decide) rfl (Nat.le_of_ble_eq_true rfl) ?_
  intro pr en st mi ar bl me cd ls Q hx hb hml hown hts hG hP hl hD hS hret
  have hown : st.vm.findClass RX5 = some mi.cls := hown
  have hl : lv_has ls 3 [(0, .ref (m 0)), (1, .int (nI k)), (2, .int (nI 8))] := hl
  have hP : va_P G.1 vwCl (wM G m σ V ζ ns x len B) st.heap := hP
  have hD : va_D (zA (wM G m σ V ζ ns x len B)) (wM G m σ V ζ ns x len B) := hD
  have hc := hO.c
  have hs := hO.lS
  have hr := hO.lR
  have hne := hO.lE
  have hvs : 0 ≤ nI k ∧ nI k < nI (nS σ) := z_in hk (by omega)
  have hvw : nI 0 ≤ nI 8 ∧ nI 8 ≤ nI 9 := by decide
  refine lv_aload_n hx hb dX5_sheet_0 rfl (lv_at hl 0 rfl) ?_
  refine lv_iload_n hx hb dX5_sheet_1 rfl (lv_at hl 1 rfl) ?_
  refine zrdV (As := [.int (nI k)]) ⟨hx, hb, hml, hown, hts⟩ (kX5_isSheet l G m σ V ζ ns x len B (nI k)) (cwV 1 hts gX5_sheet_X5_isSheet rfl rfl rfl (by decide +kernel) ⟨Nat.le_of_ble_eq_true rfl, Nat.le_of_ble_eq_true rfl⟩) hG (va_recv (q0 := 0) (ci := 5) hG.1 hP rfl rfl) (hP) rfl rfl hl.1 dX5_sheet_2 (Nat.le_of_ble_eq_true rfl) ⟨Nat.le_of_ble_eq_true rfl, Nat.le_of_ble_eq_true rfl⟩ ?_
  refine lv_if_eq (tgt := 18) hx hb dX5_sheet_5 (by decide) (fun h5 => ?_) (fun h5 => ?_)
  · skip
    have h5 : ¬ (0 ≤ (nI k) ∧ (nI k) < nI (nS σ)) := (z_b0).mp h5
    exact absurd hvs h5
  · skip
    have h5 : ¬ (¬ (0 ≤ (nI k) ∧ (nI k) < nI (nS σ))) := fun q => h5 ((z_b0).mpr q)
    have h5 : 0 ≤ (nI k) ∧ (nI k) < nI (nS σ) := Decidable.of_not_not h5
    refine lv_iload_n hx hb dX5_sheet_8 rfl (lv_at hl 2 rfl) ?_
    refine lv_iconst (v := nI 0) hx hb dX5_sheet_9 (by decide) ?_
    refine lv_bipush (v := nI 9) hx hb dX5_sheet_10 (by decide) ?_
    refine zrdS (As := [.int (nI 8), .int (nI 0), .int (nI 9)]) ⟨hx, hb, hml, hown, hts⟩ (kX5_in l G  (nI 8) (nI 0) (nI 9)) (va_cwS 3 hts gX5_sheet_X5_in rfl rfl rfl (by decide +kernel) ⟨Nat.le_of_ble_eq_true rfl, Nat.le_of_ble_eq_true rfl⟩) hG (trivial) rfl rfl hl.1 dX5_sheet_12 (Nat.le_of_ble_eq_true rfl) ⟨Nat.le_of_ble_eq_true rfl, Nat.le_of_ble_eq_true rfl⟩ ?_
    refine lv_if_ne (tgt := 20) hx hb dX5_sheet_15 (by decide) (fun h15 => ?_) (fun h15 => ?_)
    · skip
      have h15 : ¬ (¬ ((nI 0) ≤ (nI 8) ∧ (nI 8) ≤ (nI 9))) := fun q => h15 ((z_b0).mpr q)
      have h15 : (nI 0) ≤ (nI 8) ∧ (nI 8) ≤ (nI 9) := Decidable.of_not_not h15
      refine lv_iload_n hx hb dX5_sheet_20 rfl (lv_at hl 2 rfl) ?_
      refine lv_tableIn (off := 111) (tgt := 132) hx hb dX5_sheet_21 (by decide) (by decide) (by decide) (by decide) ?_
      refine lv_aload_n hx hb dX5_sheet_132 rfl (lv_at hl 0 rfl) ?_
      refine lv_iload_n hx hb dX5_sheet_133 rfl (lv_at hl 1 rfl) ?_
      refine zrdV (As := [.int (nI k)]) ⟨hx, hb, hml, hown, hts⟩ (kX5_signsOf l G m σ V ζ ns x len B k (hO) (by omega)) (cwV 1 hts gX5_sheet_X5_signsOf rfl rfl rfl (by decide +kernel) ⟨Nat.le_of_ble_eq_true rfl, Nat.le_of_ble_eq_true rfl⟩) hG (va_recv (q0 := 0) (ci := 5) hG.1 hP rfl rfl) (hP) rfl rfl hl.1 dX5_sheet_134 (Nat.le_of_ble_eq_true rfl) ⟨Nat.le_of_ble_eq_true rfl, Nat.le_of_ble_eq_true rfl⟩ ?_
      exact hret _ _ _ _ _ dX5_sheet_137 hS (hP) (congrArg nI (rfl))
    · skip
      have h15 : ¬ ((nI 0) ≤ (nI 8) ∧ (nI 8) ≤ (nI 9)) := (z_b0).mp h15
      exact absurd hvw h15
set_option maxHeartbeats 4000000 in
set_option maxRecDepth 100000 in
theorem kX5_sheet_9 (l : Launch) (G : zG) (m : Nat → Nat) (σ : Nat → Nat) (V : Nat → Nat → Nat) (ζ : Nat → Nat) (ns : Nat) (x : Nat → Nat) (len : Nat) (B : Nat → Int32) {N : Nat} (k : Nat) (hO : Ok N σ) (hns : ns ≤ 4) (hk : k < nS σ) (hd : va_D (fun _ => True) (wM G m σ V ζ ns x len B)) : Met l yX5_sheet wsX5_sheet (zRm 5 108) (zPc G [.ref (m 0), .int (nI k), .int (nI 9)] (va_P G.1 vwCl (wM G m σ V ζ ns x len B))) (zQ (zA (wM G m σ V ζ ns x len B)) (some (.int (nI (blk σ (nE σ) k)))) (va_P G.1 vwCl (wM G m σ V ζ ns x len (blF σ B)))) 0 0 (zA (wM G m σ V ζ ns x len B)) := by
  refine zmkWi (w := (wM G m σ V ζ ns x len B)) hd (cc := cX5_sheet) (maxL := 3) (by decide) rfl (Nat.le_of_ble_eq_true rfl) ?_
  intro pr en st mi ar bl me cd ls Q hx hb hml hown hts hG hP hl hD hS hret
  have hown : st.vm.findClass RX5 = some mi.cls := hown
  have hl : lv_has ls 3 [(0, .ref (m 0)), (1, .int (nI k)), (2, .int (nI 9))] := hl
  have hP : va_P G.1 vwCl (wM G m σ V ζ ns x len B) st.heap := hP
  have hD : va_D (zA (wM G m σ V ζ ns x len B)) (wM G m σ V ζ ns x len B) := hD
  have hc := hO.c
  have hs := hO.lS
  have hr := hO.lR
  have hne := hO.lE
  have hvs : 0 ≤ nI k ∧ nI k < nI (nS σ) := z_in hk (by omega)
  have hvw : nI 0 ≤ nI 9 ∧ nI 9 ≤ nI 9 := by decide
  refine lv_aload_n hx hb dX5_sheet_0 rfl (lv_at hl 0 rfl) ?_
  refine lv_iload_n hx hb dX5_sheet_1 rfl (lv_at hl 1 rfl) ?_
  refine zrdV (As := [.int (nI k)]) ⟨hx, hb, hml, hown, hts⟩ (kX5_isSheet l G m σ V ζ ns x len B (nI k)) (cwV 1 hts gX5_sheet_X5_isSheet rfl rfl rfl (by decide +kernel) ⟨Nat.le_of_ble_eq_true rfl, Nat.le_of_ble_eq_true rfl⟩) hG (va_recv (q0 := 0) (ci := 5) hG.1 hP rfl rfl) (hP) rfl rfl hl.1 dX5_sheet_2 (Nat.le_of_ble_eq_true rfl) ⟨Nat.le_of_ble_eq_true rfl, Nat.le_of_ble_eq_true rfl⟩ ?_
  refine lv_if_eq (tgt := 18) hx hb dX5_sheet_5 (by decide) (fun h5 => ?_) (fun h5 => ?_)
  · skip
    have h5 : ¬ (0 ≤ (nI k) ∧ (nI k) < nI (nS σ)) := (z_b0).mp h5
    exact absurd hvs h5
  · skip
    have h5 : ¬ (¬ (0 ≤ (nI k) ∧ (nI k) < nI (nS σ))) := fun q => h5 ((z_b0).mpr q)
    have h5 : 0 ≤ (nI k) ∧ (nI k) < nI (nS σ) := Decidable.of_not_not h5
    refine lv_iload_n hx hb dX5_sheet_8 rfl (lv_at hl 2 rfl) ?_
    refine lv_iconst (v := nI 0) hx hb dX5_sheet_9 (by decide) ?_
    refine lv_bipush (v := nI 9) hx hb dX5_sheet_10 (by decide) ?_
    refine zrdS (As := [.int (nI 9), .int (nI 0), .int (nI 9)]) ⟨hx, hb, hml, hown, hts⟩ (kX5_in l G  (nI 9) (nI 0) (nI 9)) (va_cwS 3 hts gX5_sheet_X5_in rfl rfl rfl (by decide +kernel) ⟨Nat.le_of_ble_eq_true rfl, Nat.le_of_ble_eq_true rfl⟩) hG (trivial) rfl rfl hl.1 dX5_sheet_12 (Nat.le_of_ble_eq_true rfl) ⟨Nat.le_of_ble_eq_true rfl, Nat.le_of_ble_eq_true rfl⟩ ?_
    refine lv_if_ne (tgt := 20) hx hb dX5_sheet_15 (by decide) (fun h15 => ?_) (fun h15 => ?_)
    · skip
      have h15 : ¬ (¬ ((nI 0) ≤ (nI 9) ∧ (nI 9) ≤ (nI 9))) := fun q => h15 ((z_b0).mpr q)
      have h15 : (nI 0) ≤ (nI 9) ∧ (nI 9) ≤ (nI 9) := Decidable.of_not_not h15
      refine lv_iload_n hx hb dX5_sheet_20 rfl (lv_at hl 2 rfl) ?_
      refine lv_tableIn (off := 117) (tgt := 138) hx hb dX5_sheet_21 (by decide) (by decide) (by decide) (by decide) ?_
      refine lv_aload_n hx hb dX5_sheet_138 rfl (lv_at hl 0 rfl) ?_
      refine lv_iload_n hx hb dX5_sheet_139 rfl (lv_at hl 1 rfl) ?_
      refine zwrW (G := G) (wc := (wM G m σ V ζ ns x len B)) (wc' := (wM G m σ V ζ ns x len (blF σ B))) (va_runV (As := [.int (nI k)]) (rest := []) ⟨hx, hb, hml, hown, hts⟩ (kX5_blockOf l G m σ V ζ ns x len B k (hO) (by omega) (zD_any hD)) (cwV 1 hts gX5_sheet_X5_blockOf rfl rfl rfl (by decide +kernel) ⟨Nat.le_of_ble_eq_true rfl, Nat.le_of_ble_eq_true rfl⟩) (zPreV hG (va_recv (q0 := 0) (ci := 5) hG.1 hP rfl rfl) (hP)) rfl rfl hl.1 rfl (lv_room (Nat.le_of_ble_eq_true rfl)) dX5_sheet_140 ⟨Nat.le_of_ble_eq_true rfl, Nat.le_of_ble_eq_true rfl⟩) hP hD hS (wM_map ..) (fun H locs hP hD hS => ?_)
      have hP : va_P G.1 vwCl (wM G m σ V ζ ns x len (blF σ B)) H := hP
      have hD : va_D (zA (wM G m σ V ζ ns x len B)) (wM G m σ V ζ ns x len (blF σ B)) := hD
      exact hret _ _ _ _ _ dX5_sheet_143 hS (hP) (congrArg nI (rfl))
    · skip
      have h15 : ¬ ((nI 0) ≤ (nI 9) ∧ (nI 9) ≤ (nI 9)) := (z_b0).mp h15
      exact absurd hvw h15
set_option maxHeartbeats 4000000 in
set_option maxRecDepth 100000 in
theorem kX5_count_inv (l : Launch) (G : zG) (m : Nat → Nat) (σ : Nat → Nat) (V : Nat → Nat → Nat) (ζ : Nat → Nat) (ns : Nat) (x : Nat → Nat) (len : Nat) (B : Nat → Int32) {N : Nat} (x1 : Int32) (hO : Ok N σ) (hns : ns ≤ 4) (hv : ¬ (nI 0 ≤ x1 ∧ x1 ≤ nI 14)) (hd : va_D (fun _ => True) (wM G m σ V ζ ns x len B)) : Met l yX5_count wsX5_count (zRm 7 163) (zPc G [.ref (m 0), .int x1] (va_P G.1 vwCl (wM G m σ V ζ ns x len B))) (zQ (zA (wM G m σ V ζ ns x len B)) (some (.int ((-1)))) (va_P G.1 vwCl (wM G m σ V ζ ns x len B))) 0 0 (zA (wM G m σ V ζ ns x len B)) := by
  refine zmkWi (w := (wM G m σ V ζ ns x len B)) hd (cc := cX5_count) (maxL := 2) (by decide) rfl (Nat.le_of_ble_eq_true rfl) ?_
  intro pr en st mi ar bl me cd ls Q hx hb hml hown hts hG hP hl hD hS hret
  have hown : st.vm.findClass RX5 = some mi.cls := hown
  have hl : lv_has ls 2 [(0, .ref (m 0)), (1, .int x1)] := hl
  have hP : va_P G.1 vwCl (wM G m σ V ζ ns x len B) st.heap := hP
  have hD : va_D (zA (wM G m σ V ζ ns x len B)) (wM G m σ V ζ ns x len B) := hD
  have hc := hO.c
  have hs := hO.lS
  have hr := hO.lR
  have hne := hO.lE
  refine lv_iload_n hx hb dX5_count_0 rfl (lv_at hl 1 rfl) ?_
  refine lv_tableOut (tgt := 142) hx hb dX5_count_1 (z_out (h := 14) (by decide) hv) (by decide) ?_
  refine lv_iconst (v := (-1)) hx hb dX5_count_142 (by decide) ?_
  exact hret _ _ _ _ _ dX5_count_143 hS (hP) (rfl)
set_option maxHeartbeats 4000000 in
set_option maxRecDepth 100000 in
theorem kX5_count_0 (l : Launch) (G : zG) (m : Nat → Nat) (σ : Nat → Nat) (V : Nat → Nat → Nat) (ζ : Nat → Nat) (ns : Nat) (x : Nat → Nat) (len : Nat) (B : Nat → Int32) {N : Nat}  (hO : Ok N σ) (hns : ns ≤ 4) (hd : va_D (fun _ => True) (wM G m σ V ζ ns x len B)) : Met l yX5_count wsX5_count (zRm 7 163) (zPc G [.ref (m 0), .int (nI 0)] (va_P G.1 vwCl (wM G m σ V ζ ns x len B))) (zQ (zA (wM G m σ V ζ ns x len B)) (some (.int (nI (σ 0)))) (va_P G.1 vwCl (wM G m σ V ζ ns x len B))) 0 0 (zA (wM G m σ V ζ ns x len B)) := by
  refine zmkWi (w := (wM G m σ V ζ ns x len B)) hd (cc := cX5_count) (maxL := 2) (by decide) rfl (Nat.le_of_ble_eq_true rfl) ?_
  intro pr en st mi ar bl me cd ls Q hx hb hml hown hts hG hP hl hD hS hret
  have hown : st.vm.findClass RX5 = some mi.cls := hown
  have hl : lv_has ls 2 [(0, .ref (m 0)), (1, .int (nI 0))] := hl
  have hP : va_P G.1 vwCl (wM G m σ V ζ ns x len B) st.heap := hP
  have hD : va_D (zA (wM G m σ V ζ ns x len B)) (wM G m σ V ζ ns x len B) := hD
  have hinX5 : ∀ w ∈ wsX50, w ∈ wsX5_count := by decide +kernel
  have hf7 := hts (.fieldLink RX5 7 "MapSheetsModel" "s" "[I") (by decide +kernel)
  have hc := hO.c
  have hs := hO.lS
  have hr := hO.lR
  have hne := hO.lE
  refine lv_iload_n hx hb dX5_count_0 rfl (lv_at hl 1 rfl) ?_
  refine lv_tableIn (off := 75) (tgt := 76) hx hb dX5_count_1 (by decide) (by decide) (by decide) (by decide) ?_
  refine lv_aload_n hx hb dX5_count_76 rfl (lv_at hl 0 rfl) ?_
  refine va_get (D := G.1) (ci := 5) (v := .ref (m 1)) (C := RX5) (T := TX5) (N := 7) hx hb hts hinX5 hown hG.1 hP 0 rfl rfl 0 (by decide) hf7 (fun _ h9 => h9) rfl dX5_count_77 ?_
  refine lv_iload_n hx hb dX5_count_80 rfl (lv_at hl 1 rfl) ?_
  refine va_iald hx hb hG.1 hP 1 0 rfl rfl (vp_in_nI (n := 0) (N := 1972) (by omega) (by omega)) dX5_count_81 ?_
  refine lv_topi (nm_r (e' := nI (σ 0)) (by rw [nI_clamp (by omega)]; exact sF_n (by omega)) ?_)
  exact hret _ _ _ _ _ dX5_count_82 hS (hP) (congrArg nI (rfl))
set_option maxHeartbeats 4000000 in
set_option maxRecDepth 100000 in
theorem kX5_count_1 (l : Launch) (G : zG) (m : Nat → Nat) (σ : Nat → Nat) (V : Nat → Nat → Nat) (ζ : Nat → Nat) (ns : Nat) (x : Nat → Nat) (len : Nat) (B : Nat → Int32) {N : Nat}  (hO : Ok N σ) (hns : ns ≤ 4) (hd : va_D (fun _ => True) (wM G m σ V ζ ns x len B)) : Met l yX5_count wsX5_count (zRm 7 163) (zPc G [.ref (m 0), .int (nI 1)] (va_P G.1 vwCl (wM G m σ V ζ ns x len B))) (zQ (zA (wM G m σ V ζ ns x len B)) (some (.int (nI (σ 1)))) (va_P G.1 vwCl (wM G m σ V ζ ns x len B))) 0 0 (zA (wM G m σ V ζ ns x len B)) := by
  refine zmkWi (w := (wM G m σ V ζ ns x len B)) hd (cc := cX5_count) (maxL := 2) (by decide) rfl (Nat.le_of_ble_eq_true rfl) ?_
  intro pr en st mi ar bl me cd ls Q hx hb hml hown hts hG hP hl hD hS hret
  have hown : st.vm.findClass RX5 = some mi.cls := hown
  have hl : lv_has ls 2 [(0, .ref (m 0)), (1, .int (nI 1))] := hl
  have hP : va_P G.1 vwCl (wM G m σ V ζ ns x len B) st.heap := hP
  have hD : va_D (zA (wM G m σ V ζ ns x len B)) (wM G m σ V ζ ns x len B) := hD
  have hinX5 : ∀ w ∈ wsX50, w ∈ wsX5_count := by decide +kernel
  have hf7 := hts (.fieldLink RX5 7 "MapSheetsModel" "s" "[I") (by decide +kernel)
  have hc := hO.c
  have hs := hO.lS
  have hr := hO.lR
  have hne := hO.lE
  refine lv_iload_n hx hb dX5_count_0 rfl (lv_at hl 1 rfl) ?_
  refine lv_tableIn (off := 75) (tgt := 76) hx hb dX5_count_1 (by decide) (by decide) (by decide) (by decide) ?_
  refine lv_aload_n hx hb dX5_count_76 rfl (lv_at hl 0 rfl) ?_
  refine va_get (D := G.1) (ci := 5) (v := .ref (m 1)) (C := RX5) (T := TX5) (N := 7) hx hb hts hinX5 hown hG.1 hP 0 rfl rfl 0 (by decide) hf7 (fun _ h9 => h9) rfl dX5_count_77 ?_
  refine lv_iload_n hx hb dX5_count_80 rfl (lv_at hl 1 rfl) ?_
  refine va_iald hx hb hG.1 hP 1 0 rfl rfl (vp_in_nI (n := 1) (N := 1972) (by omega) (by omega)) dX5_count_81 ?_
  refine lv_topi (nm_r (e' := nI (σ 1)) (by rw [nI_clamp (by omega)]; exact sF_n (by omega)) ?_)
  exact hret _ _ _ _ _ dX5_count_82 hS (hP) (congrArg nI (rfl))
set_option maxHeartbeats 4000000 in
set_option maxRecDepth 100000 in
theorem kX5_count_2 (l : Launch) (G : zG) (m : Nat → Nat) (σ : Nat → Nat) (V : Nat → Nat → Nat) (ζ : Nat → Nat) (ns : Nat) (x : Nat → Nat) (len : Nat) (B : Nat → Int32) {N : Nat}  (hO : Ok N σ) (hns : ns ≤ 4) (hd : va_D (fun _ => True) (wM G m σ V ζ ns x len B)) : Met l yX5_count wsX5_count (zRm 7 163) (zPc G [.ref (m 0), .int (nI 2)] (va_P G.1 vwCl (wM G m σ V ζ ns x len B))) (zQ (zA (wM G m σ V ζ ns x len B)) (some (.int (nI (nS σ)))) (va_P G.1 vwCl (wM G m σ V ζ ns x len B))) 0 0 (zA (wM G m σ V ζ ns x len B)) := by
  refine zmkWi (w := (wM G m σ V ζ ns x len B)) hd (cc := cX5_count) (maxL := 2) (by decide) rfl (Nat.le_of_ble_eq_true rfl) ?_
  intro pr en st mi ar bl me cd ls Q hx hb hml hown hts hG hP hl hD hS hret
  have hown : st.vm.findClass RX5 = some mi.cls := hown
  have hl : lv_has ls 2 [(0, .ref (m 0)), (1, .int (nI 2))] := hl
  have hP : va_P G.1 vwCl (wM G m σ V ζ ns x len B) st.heap := hP
  have hD : va_D (zA (wM G m σ V ζ ns x len B)) (wM G m σ V ζ ns x len B) := hD
  have hc := hO.c
  have hs := hO.lS
  have hr := hO.lR
  have hne := hO.lE
  refine lv_iload_n hx hb dX5_count_0 rfl (lv_at hl 1 rfl) ?_
  refine lv_tableIn (off := 82) (tgt := 83) hx hb dX5_count_1 (by decide) (by decide) (by decide) (by decide) ?_
  refine lv_aload_n hx hb dX5_count_83 rfl (lv_at hl 0 rfl) ?_
  refine zrdV (As := []) ⟨hx, hb, hml, hown, hts⟩ (kX5_sheets l G m σ V ζ ns x len B ) (cwV 0 hts gX5_count_X5_sheets rfl rfl rfl (by decide +kernel) ⟨Nat.le_of_ble_eq_true rfl, Nat.le_of_ble_eq_true rfl⟩) hG (va_recv (q0 := 0) (ci := 5) hG.1 hP rfl rfl) (hP) rfl rfl hl.1 dX5_count_84 (Nat.le_of_ble_eq_true rfl) ⟨Nat.le_of_ble_eq_true rfl, Nat.le_of_ble_eq_true rfl⟩ ?_
  exact hret _ _ _ _ _ dX5_count_87 hS (hP) (congrArg nI (rfl))
set_option maxHeartbeats 4000000 in
set_option maxRecDepth 100000 in
theorem kX5_count_3 (l : Launch) (G : zG) (m : Nat → Nat) (σ : Nat → Nat) (V : Nat → Nat → Nat) (ζ : Nat → Nat) (ns : Nat) (x : Nat → Nat) (len : Nat) (B : Nat → Int32) {N : Nat}  (hO : Ok N σ) (hns : ns ≤ 4) (hd : va_D (fun _ => True) (wM G m σ V ζ ns x len B)) : Met l yX5_count wsX5_count (zRm 7 163) (zPc G [.ref (m 0), .int (nI 3)] (va_P G.1 vwCl (wM G m σ V ζ ns x len B))) (zQ (zA (wM G m σ V ζ ns x len B)) (some (.int (nI (nE σ)))) (va_P G.1 vwCl (wM G m σ V ζ ns x len B))) 0 0 (zA (wM G m σ V ζ ns x len B)) := by
  refine zmkWi (w := (wM G m σ V ζ ns x len B)) hd (cc := cX5_count) (maxL := 2) (by decide) rfl (Nat.le_of_ble_eq_true rfl) ?_
  intro pr en st mi ar bl me cd ls Q hx hb hml hown hts hG hP hl hD hS hret
  have hown : st.vm.findClass RX5 = some mi.cls := hown
  have hl : lv_has ls 2 [(0, .ref (m 0)), (1, .int (nI 3))] := hl
  have hP : va_P G.1 vwCl (wM G m σ V ζ ns x len B) st.heap := hP
  have hD : va_D (zA (wM G m σ V ζ ns x len B)) (wM G m σ V ζ ns x len B) := hD
  have hc := hO.c
  have hs := hO.lS
  have hr := hO.lR
  have hne := hO.lE
  refine lv_iload_n hx hb dX5_count_0 rfl (lv_at hl 1 rfl) ?_
  refine lv_tableIn (off := 87) (tgt := 88) hx hb dX5_count_1 (by decide) (by decide) (by decide) (by decide) ?_
  refine lv_aload_n hx hb dX5_count_88 rfl (lv_at hl 0 rfl) ?_
  refine zrdV (As := []) ⟨hx, hb, hml, hown, hts⟩ (kX5_edges l G m σ V ζ ns x len B (hO)) (cwV 0 hts gX5_count_X5_edges rfl rfl rfl (by decide +kernel) ⟨Nat.le_of_ble_eq_true rfl, Nat.le_of_ble_eq_true rfl⟩) hG (va_recv (q0 := 0) (ci := 5) hG.1 hP rfl rfl) (hP) rfl rfl hl.1 dX5_count_89 (Nat.le_of_ble_eq_true rfl) ⟨Nat.le_of_ble_eq_true rfl, Nat.le_of_ble_eq_true rfl⟩ ?_
  exact hret _ _ _ _ _ dX5_count_92 hS (hP) (congrArg nI (rfl))
set_option maxHeartbeats 4000000 in
set_option maxRecDepth 100000 in
theorem kX5_count_4 (l : Launch) (G : zG) (m : Nat → Nat) (σ : Nat → Nat) (V : Nat → Nat → Nat) (ζ : Nat → Nat) (ns : Nat) (x : Nat → Nat) (len : Nat) (B : Nat → Int32) {N : Nat}  (hO : Ok N σ) (hns : ns ≤ 4) (hd : va_D (fun _ => True) (wM G m σ V ζ ns x len B)) : Met l yX5_count wsX5_count (zRm 7 163) (zPc G [.ref (m 0), .int (nI 4)] (va_P G.1 vwCl (wM G m σ V ζ ns x len B))) (zQ (zA (wM G m σ V ζ ns x len B)) (some (.int (nI (agA σ)))) (va_P G.1 vwCl (wM G m σ V ζ ns x len B))) 0 0 (zA (wM G m σ V ζ ns x len B)) := by
  refine zmkWi (w := (wM G m σ V ζ ns x len B)) hd (cc := cX5_count) (maxL := 2) (by decide) rfl (Nat.le_of_ble_eq_true rfl) ?_
  intro pr en st mi ar bl me cd ls Q hx hb hml hown hts hG hP hl hD hS hret
  have hown : st.vm.findClass RX5 = some mi.cls := hown
  have hl : lv_has ls 2 [(0, .ref (m 0)), (1, .int (nI 4))] := hl
  have hP : va_P G.1 vwCl (wM G m σ V ζ ns x len B) st.heap := hP
  have hD : va_D (zA (wM G m σ V ζ ns x len B)) (wM G m σ V ζ ns x len B) := hD
  have hc := hO.c
  have hs := hO.lS
  have hr := hO.lR
  have hne := hO.lE
  refine lv_iload_n hx hb dX5_count_0 rfl (lv_at hl 1 rfl) ?_
  refine lv_tableIn (off := 92) (tgt := 93) hx hb dX5_count_1 (by decide) (by decide) (by decide) (by decide) ?_
  refine lv_aload_n hx hb dX5_count_93 rfl (lv_at hl 0 rfl) ?_
  refine lv_iload_n hx hb dX5_count_94 rfl (lv_at hl 1 rfl) ?_
  refine zrdV (As := [.int (nI 4)]) ⟨hx, hb, hml, hown, hts⟩ (kX5_sumOf_4 l G m σ V ζ ns x len B (hO)) (cwV 1 hts gX5_count_X5_sumOf rfl rfl rfl (by decide +kernel) ⟨Nat.le_of_ble_eq_true rfl, Nat.le_of_ble_eq_true rfl⟩) hG (va_recv (q0 := 0) (ci := 5) hG.1 hP rfl rfl) (hP) rfl rfl hl.1 dX5_count_95 (Nat.le_of_ble_eq_true rfl) ⟨Nat.le_of_ble_eq_true rfl, Nat.le_of_ble_eq_true rfl⟩ ?_
  exact hret _ _ _ _ _ dX5_count_98 hS (hP) (congrArg nI (rfl))
set_option maxHeartbeats 4000000 in
set_option maxRecDepth 100000 in
theorem kX5_count_5 (l : Launch) (G : zG) (m : Nat → Nat) (σ : Nat → Nat) (V : Nat → Nat → Nat) (ζ : Nat → Nat) (ns : Nat) (x : Nat → Nat) (len : Nat) (B : Nat → Int32) {N : Nat}  (hO : Ok N σ) (hns : ns ≤ 4) (hd : va_D (fun _ => True) (wM G m σ V ζ ns x len B)) : Met l yX5_count wsX5_count (zRm 7 163) (zPc G [.ref (m 0), .int (nI 5)] (va_P G.1 vwCl (wM G m σ V ζ ns x len B))) (zQ (zA (wM G m σ V ζ ns x len B)) (some (.int (nI (cln σ)))) (va_P G.1 vwCl (wM G m σ V ζ ns x len B))) 0 0 (zA (wM G m σ V ζ ns x len B)) := by
  refine zmkWi (w := (wM G m σ V ζ ns x len B)) hd (cc := cX5_count) (maxL := 2) (by decide) rfl (Nat.le_of_ble_eq_true rfl) ?_
  intro pr en st mi ar bl me cd ls Q hx hb hml hown hts hG hP hl hD hS hret
  have hown : st.vm.findClass RX5 = some mi.cls := hown
  have hl : lv_has ls 2 [(0, .ref (m 0)), (1, .int (nI 5))] := hl
  have hP : va_P G.1 vwCl (wM G m σ V ζ ns x len B) st.heap := hP
  have hD : va_D (zA (wM G m σ V ζ ns x len B)) (wM G m σ V ζ ns x len B) := hD
  have hc := hO.c
  have hs := hO.lS
  have hr := hO.lR
  have hne := hO.lE
  refine lv_iload_n hx hb dX5_count_0 rfl (lv_at hl 1 rfl) ?_
  refine lv_tableIn (off := 92) (tgt := 93) hx hb dX5_count_1 (by decide) (by decide) (by decide) (by decide) ?_
  refine lv_aload_n hx hb dX5_count_93 rfl (lv_at hl 0 rfl) ?_
  refine lv_iload_n hx hb dX5_count_94 rfl (lv_at hl 1 rfl) ?_
  refine zrdV (As := [.int (nI 5)]) ⟨hx, hb, hml, hown, hts⟩ (kX5_sumOf_5 l G m σ V ζ ns x len B (hO)) (cwV 1 hts gX5_count_X5_sumOf rfl rfl rfl (by decide +kernel) ⟨Nat.le_of_ble_eq_true rfl, Nat.le_of_ble_eq_true rfl⟩) hG (va_recv (q0 := 0) (ci := 5) hG.1 hP rfl rfl) (hP) rfl rfl hl.1 dX5_count_95 (Nat.le_of_ble_eq_true rfl) ⟨Nat.le_of_ble_eq_true rfl, Nat.le_of_ble_eq_true rfl⟩ ?_
  exact hret _ _ _ _ _ dX5_count_98 hS (hP) (congrArg nI (rfl))
set_option maxHeartbeats 4000000 in
set_option maxRecDepth 100000 in
theorem kX5_count_6 (l : Launch) (G : zG) (m : Nat → Nat) (σ : Nat → Nat) (V : Nat → Nat → Nat) (ζ : Nat → Nat) (ns : Nat) (x : Nat → Nat) (len : Nat) (B : Nat → Int32) {N : Nat}  (hO : Ok N σ) (hns : ns ≤ 4) (hd : va_D (fun _ => True) (wM G m σ V ζ ns x len B)) : Met l yX5_count wsX5_count (zRm 7 163) (zPc G [.ref (m 0), .int (nI 6)] (va_P G.1 vwCl (wM G m σ V ζ ns x len B))) (zQ (zA (wM G m σ V ζ ns x len B)) (some (.int (nI (qAl σ)))) (va_P G.1 vwCl (wM G m σ V ζ ns x len B))) 0 0 (zA (wM G m σ V ζ ns x len B)) := by
  refine zmkWi (w := (wM G m σ V ζ ns x len B)) hd (cc := cX5_count) (maxL := 2) (by decide) rfl (Nat.le_of_ble_eq_true rfl) ?_
  intro pr en st mi ar bl me cd ls Q hx hb hml hown hts hG hP hl hD hS hret
  have hown : st.vm.findClass RX5 = some mi.cls := hown
  have hl : lv_has ls 2 [(0, .ref (m 0)), (1, .int (nI 6))] := hl
  have hP : va_P G.1 vwCl (wM G m σ V ζ ns x len B) st.heap := hP
  have hD : va_D (zA (wM G m σ V ζ ns x len B)) (wM G m σ V ζ ns x len B) := hD
  have hc := hO.c
  have hs := hO.lS
  have hr := hO.lR
  have hne := hO.lE
  refine lv_iload_n hx hb dX5_count_0 rfl (lv_at hl 1 rfl) ?_
  refine lv_tableIn (off := 92) (tgt := 93) hx hb dX5_count_1 (by decide) (by decide) (by decide) (by decide) ?_
  refine lv_aload_n hx hb dX5_count_93 rfl (lv_at hl 0 rfl) ?_
  refine lv_iload_n hx hb dX5_count_94 rfl (lv_at hl 1 rfl) ?_
  refine zrdV (As := [.int (nI 6)]) ⟨hx, hb, hml, hown, hts⟩ (kX5_sumOf_6 l G m σ V ζ ns x len B (hO)) (cwV 1 hts gX5_count_X5_sumOf rfl rfl rfl (by decide +kernel) ⟨Nat.le_of_ble_eq_true rfl, Nat.le_of_ble_eq_true rfl⟩) hG (va_recv (q0 := 0) (ci := 5) hG.1 hP rfl rfl) (hP) rfl rfl hl.1 dX5_count_95 (Nat.le_of_ble_eq_true rfl) ⟨Nat.le_of_ble_eq_true rfl, Nat.le_of_ble_eq_true rfl⟩ ?_
  exact hret _ _ _ _ _ dX5_count_98 hS (hP) (congrArg nI (rfl))
set_option maxHeartbeats 4000000 in
set_option maxRecDepth 100000 in
theorem kX5_count_7 (l : Launch) (G : zG) (m : Nat → Nat) (σ : Nat → Nat) (V : Nat → Nat → Nat) (ζ : Nat → Nat) (ns : Nat) (x : Nat → Nat) (len : Nat) (B : Nat → Int32) {N : Nat}  (hO : Ok N σ) (hns : ns ≤ 4) (hd : va_D (fun _ => True) (wM G m σ V ζ ns x len B)) : Met l yX5_count wsX5_count (zRm 7 163) (zPc G [.ref (m 0), .int (nI 7)] (va_P G.1 vwCl (wM G m σ V ζ ns x len B))) (zQ (zA (wM G m σ V ζ ns x len B)) (some (.int (nI (fnd σ (nE σ))))) (va_P G.1 vwCl (wM G m σ V ζ ns x len (blF σ B)))) 0 0 (zA (wM G m σ V ζ ns x len B)) := by
  refine zmkWi (w := (wM G m σ V ζ ns x len B)) hd (cc := cX5_count) (maxL := 2) (by decide) rfl (Nat.le_of_ble_eq_true rfl) ?_
  intro pr en st mi ar bl me cd ls Q hx hb hml hown hts hG hP hl hD hS hret
  have hown : st.vm.findClass RX5 = some mi.cls := hown
  have hl : lv_has ls 2 [(0, .ref (m 0)), (1, .int (nI 7))] := hl
  have hP : va_P G.1 vwCl (wM G m σ V ζ ns x len B) st.heap := hP
  have hD : va_D (zA (wM G m σ V ζ ns x len B)) (wM G m σ V ζ ns x len B) := hD
  have hc := hO.c
  have hs := hO.lS
  have hr := hO.lR
  have hne := hO.lE
  refine lv_iload_n hx hb dX5_count_0 rfl (lv_at hl 1 rfl) ?_
  refine lv_tableIn (off := 98) (tgt := 99) hx hb dX5_count_1 (by decide) (by decide) (by decide) (by decide) ?_
  refine lv_aload_n hx hb dX5_count_99 rfl (lv_at hl 0 rfl) ?_
  refine zwrW (G := G) (wc := (wM G m σ V ζ ns x len B)) (wc' := (wM G m σ V ζ ns x len (blF σ B))) (va_runV (As := []) (rest := []) ⟨hx, hb, hml, hown, hts⟩ (kX5_blocks l G m σ V ζ ns x len B (hO) (zD_any hD)) (cwV 0 hts gX5_count_X5_blocks rfl rfl rfl (by decide +kernel) ⟨Nat.le_of_ble_eq_true rfl, Nat.le_of_ble_eq_true rfl⟩) (zPreV hG (va_recv (q0 := 0) (ci := 5) hG.1 hP rfl rfl) (hP)) rfl rfl hl.1 rfl (lv_room (Nat.le_of_ble_eq_true rfl)) dX5_count_100 ⟨Nat.le_of_ble_eq_true rfl, Nat.le_of_ble_eq_true rfl⟩) hP hD hS (wM_map ..) (fun H locs hP hD hS => ?_)
  have hP : va_P G.1 vwCl (wM G m σ V ζ ns x len (blF σ B)) H := hP
  have hD : va_D (zA (wM G m σ V ζ ns x len B)) (wM G m σ V ζ ns x len (blF σ B)) := hD
  exact hret _ _ _ _ _ dX5_count_103 hS (hP) (congrArg nI (rfl))
set_option maxHeartbeats 4000000 in
set_option maxRecDepth 100000 in
theorem kX5_count_8 (l : Launch) (G : zG) (m : Nat → Nat) (σ : Nat → Nat) (V : Nat → Nat → Nat) (ζ : Nat → Nat) (ns : Nat) (x : Nat → Nat) (len : Nat) (B : Nat → Int32) {N : Nat}  (hO : Ok N σ) (hns : ns ≤ 4) (hd : va_D (fun _ => True) (wM G m σ V ζ ns x len B)) : Met l yX5_count wsX5_count (zRm 7 163) (zPc G [.ref (m 0), .int (nI 8)] (va_P G.1 vwCl (wM G m σ V ζ ns x len B))) (zQ (zA (wM G m σ V ζ ns x len B)) (some (.int (nI (pbS σ)))) (va_P G.1 vwCl (wM G m σ V ζ ns x len B))) 0 0 (zA (wM G m σ V ζ ns x len B)) := by
  refine zmkWi (w := (wM G m σ V ζ ns x len B)) hd (cc := cX5_count) (maxL := 2) (by decide) rfl (Nat.le_of_ble_eq_true rfl) ?_
  intro pr en st mi ar bl me cd ls Q hx hb hml hown hts hG hP hl hD hS hret
  have hown : st.vm.findClass RX5 = some mi.cls := hown
  have hl : lv_has ls 2 [(0, .ref (m 0)), (1, .int (nI 8))] := hl
  have hP : va_P G.1 vwCl (wM G m σ V ζ ns x len B) st.heap := hP
  have hD : va_D (zA (wM G m σ V ζ ns x len B)) (wM G m σ V ζ ns x len B) := hD
  have hc := hO.c
  have hs := hO.lS
  have hr := hO.lR
  have hne := hO.lE
  refine lv_iload_n hx hb dX5_count_0 rfl (lv_at hl 1 rfl) ?_
  refine lv_tableIn (off := 103) (tgt := 104) hx hb dX5_count_1 (by decide) (by decide) (by decide) (by decide) ?_
  refine lv_aload_n hx hb dX5_count_104 rfl (lv_at hl 0 rfl) ?_
  refine lv_iload_n hx hb dX5_count_105 rfl (lv_at hl 1 rfl) ?_
  refine lv_bipush (v := nI 9) hx hb dX5_count_106 (by decide) ?_
  refine lv_icmp_ne (tgt := 115) hx hb dX5_count_108 (by decide) (fun h108 => ?_) (fun h108 => ?_)
  · skip
    have h108 : ¬ (8 = 9) := fun q => h108 ((nI_eq (by omega) (by omega)).mpr q)
    refine lv_iconst (v := nI 0) hx hb dX5_count_115 (by decide) ?_
    refine zrdV (As := [.int (nI 0)]) ⟨hx, hb, hml, hown, hts⟩ (kX5_published_0 l G m σ V ζ ns x len B (hO)) (cwV 1 hts gX5_count_X5_published rfl rfl rfl (by decide +kernel) ⟨Nat.le_of_ble_eq_true rfl, Nat.le_of_ble_eq_true rfl⟩) hG (va_recv (q0 := 0) (ci := 5) hG.1 hP rfl rfl) (hP) rfl rfl hl.1 dX5_count_116 (Nat.le_of_ble_eq_true rfl) ⟨Nat.le_of_ble_eq_true rfl, Nat.le_of_ble_eq_true rfl⟩ ?_
    exact hret _ _ _ _ _ dX5_count_119 hS (hP) (congrArg nI (rfl))
  · skip
    have h108 : 8 = 9 := (nI_eq (by omega) (by omega)).mp h108
    exfalso; omega
set_option maxHeartbeats 4000000 in
set_option maxRecDepth 100000 in
theorem kX5_count_9 (l : Launch) (G : zG) (m : Nat → Nat) (σ : Nat → Nat) (V : Nat → Nat → Nat) (ζ : Nat → Nat) (ns : Nat) (x : Nat → Nat) (len : Nat) (B : Nat → Int32) {N : Nat}  (hO : Ok N σ) (hns : ns ≤ 4) (hd : va_D (fun _ => True) (wM G m σ V ζ ns x len B)) : Met l yX5_count wsX5_count (zRm 7 163) (zPc G [.ref (m 0), .int (nI 9)] (va_P G.1 vwCl (wM G m σ V ζ ns x len B))) (zQ (zA (wM G m σ V ζ ns x len B)) (some (.int (nI (upS σ)))) (va_P G.1 vwCl (wM G m σ V ζ ns x len B))) 0 0 (zA (wM G m σ V ζ ns x len B)) := by
  refine zmkWi (w := (wM G m σ V ζ ns x len B)) hd (cc := cX5_count) (maxL := 2) (by decide) rfl (Nat.le_of_ble_eq_true rfl) ?_
  intro pr en st mi ar bl me cd ls Q hx hb hml hown hts hG hP hl hD hS hret
  have hown : st.vm.findClass RX5 = some mi.cls := hown
  have hl : lv_has ls 2 [(0, .ref (m 0)), (1, .int (nI 9))] := hl
  have hP : va_P G.1 vwCl (wM G m σ V ζ ns x len B) st.heap := hP
  have hD : va_D (zA (wM G m σ V ζ ns x len B)) (wM G m σ V ζ ns x len B) := hD
  have hc := hO.c
  have hs := hO.lS
  have hr := hO.lR
  have hne := hO.lE
  refine lv_iload_n hx hb dX5_count_0 rfl (lv_at hl 1 rfl) ?_
  refine lv_tableIn (off := 103) (tgt := 104) hx hb dX5_count_1 (by decide) (by decide) (by decide) (by decide) ?_
  refine lv_aload_n hx hb dX5_count_104 rfl (lv_at hl 0 rfl) ?_
  refine lv_iload_n hx hb dX5_count_105 rfl (lv_at hl 1 rfl) ?_
  refine lv_bipush (v := nI 9) hx hb dX5_count_106 (by decide) ?_
  refine lv_icmp_ne (tgt := 115) hx hb dX5_count_108 (by decide) (fun h108 => ?_) (fun h108 => ?_)
  · skip
    have h108 : ¬ (9 = 9) := fun q => h108 ((nI_eq (by omega) (by omega)).mpr q)
    exfalso; omega
  · skip
    have h108 : 9 = 9 := (nI_eq (by omega) (by omega)).mp h108
    refine lv_iconst (v := nI 1) hx hb dX5_count_111 (by decide) ?_
    refine lv_goto (tgt := 116) hx hb dX5_count_112 (by decide) ?_
    refine zrdV (As := [.int (nI 1)]) ⟨hx, hb, hml, hown, hts⟩ (kX5_published_1 l G m σ V ζ ns x len B (hO)) (cwV 1 hts gX5_count_X5_published rfl rfl rfl (by decide +kernel) ⟨Nat.le_of_ble_eq_true rfl, Nat.le_of_ble_eq_true rfl⟩) hG (va_recv (q0 := 0) (ci := 5) hG.1 hP rfl rfl) (hP) rfl rfl hl.1 dX5_count_116 (Nat.le_of_ble_eq_true rfl) ⟨Nat.le_of_ble_eq_true rfl, Nat.le_of_ble_eq_true rfl⟩ ?_
    exact hret _ _ _ _ _ dX5_count_119 hS (hP) (congrArg nI (rfl))
set_option maxHeartbeats 4000000 in
set_option maxRecDepth 100000 in
theorem kX5_count_10 (l : Launch) (G : zG) (m : Nat → Nat) (σ : Nat → Nat) (V : Nat → Nat → Nat) (ζ : Nat → Nat) (ns : Nat) (x : Nat → Nat) (len : Nat) (B : Nat → Int32) {N : Nat}  (hO : Ok N σ) (hns : ns ≤ 4) (hd : va_D (fun _ => True) (wM G m σ V ζ ns x len B)) : Met l yX5_count wsX5_count (zRm 7 163) (zPc G [.ref (m 0), .int (nI 10)] (va_P G.1 vwCl (wM G m σ V ζ ns x len B))) (zQ (zA (wM G m σ V ζ ns x len B)) (some (.int (nI (fitA σ)))) (va_P G.1 vwCl (wM G m σ V ζ ns x len B))) 0 0 (zA (wM G m σ V ζ ns x len B)) := by
  refine zmkWi (w := (wM G m σ V ζ ns x len B)) hd (cc := cX5_count) (maxL := 2) (by decide) rfl (Nat.le_of_ble_eq_true rfl) ?_
  intro pr en st mi ar bl me cd ls Q hx hb hml hown hts hG hP hl hD hS hret
  have hown : st.vm.findClass RX5 = some mi.cls := hown
  have hl : lv_has ls 2 [(0, .ref (m 0)), (1, .int (nI 10))] := hl
  have hP : va_P G.1 vwCl (wM G m σ V ζ ns x len B) st.heap := hP
  have hD : va_D (zA (wM G m σ V ζ ns x len B)) (wM G m σ V ζ ns x len B) := hD
  have hc := hO.c
  have hs := hO.lS
  have hr := hO.lR
  have hne := hO.lE
  refine lv_iload_n hx hb dX5_count_0 rfl (lv_at hl 1 rfl) ?_
  refine lv_tableIn (off := 92) (tgt := 93) hx hb dX5_count_1 (by decide) (by decide) (by decide) (by decide) ?_
  refine lv_aload_n hx hb dX5_count_93 rfl (lv_at hl 0 rfl) ?_
  refine lv_iload_n hx hb dX5_count_94 rfl (lv_at hl 1 rfl) ?_
  refine zrdV (As := [.int (nI 10)]) ⟨hx, hb, hml, hown, hts⟩ (kX5_sumOf_10 l G m σ V ζ ns x len B (hO)) (cwV 1 hts gX5_count_X5_sumOf rfl rfl rfl (by decide +kernel) ⟨Nat.le_of_ble_eq_true rfl, Nat.le_of_ble_eq_true rfl⟩) hG (va_recv (q0 := 0) (ci := 5) hG.1 hP rfl rfl) (hP) rfl rfl hl.1 dX5_count_95 (Nat.le_of_ble_eq_true rfl) ⟨Nat.le_of_ble_eq_true rfl, Nat.le_of_ble_eq_true rfl⟩ ?_
  exact hret _ _ _ _ _ dX5_count_98 hS (hP) (congrArg nI (rfl))
set_option maxHeartbeats 4000000 in
set_option maxRecDepth 100000 in
theorem kX5_count_11 (l : Launch) (G : zG) (m : Nat → Nat) (σ : Nat → Nat) (V : Nat → Nat → Nat) (ζ : Nat → Nat) (ns : Nat) (x : Nat → Nat) (len : Nat) (B : Nat → Int32) {N : Nat}  (hO : Ok N σ) (hns : ns ≤ 4) (hd : va_D (fun _ => True) (wM G m σ V ζ ns x len B)) : Met l yX5_count wsX5_count (zRm 7 163) (zPc G [.ref (m 0), .int (nI 11)] (va_P G.1 vwCl (wM G m σ V ζ ns x len B))) (zQ (zA (wM G m σ V ζ ns x len B)) (some (.int (nI (ns)))) (va_P G.1 vwCl (wM G m σ V ζ ns x len B))) 0 0 (zA (wM G m σ V ζ ns x len B)) := by
  refine zmkWi (w := (wM G m σ V ζ ns x len B)) hd (cc := cX5_count) (maxL := 2) (by decide) rfl (Nat.le_of_ble_eq_true rfl) ?_
  intro pr en st mi ar bl me cd ls Q hx hb hml hown hts hG hP hl hD hS hret
  have hown : st.vm.findClass RX5 = some mi.cls := hown
  have hl : lv_has ls 2 [(0, .ref (m 0)), (1, .int (nI 11))] := hl
  have hP : va_P G.1 vwCl (wM G m σ V ζ ns x len B) st.heap := hP
  have hD : va_D (zA (wM G m σ V ζ ns x len B)) (wM G m σ V ζ ns x len B) := hD
  have hinX5 : ∀ w ∈ wsX50, w ∈ wsX5_count := by decide +kernel
  have hf29 := hts (.fieldLink RX5 29 "MapSheetsModel" "states" "I") (by decide +kernel)
  have hc := hO.c
  have hs := hO.lS
  have hr := hO.lR
  have hne := hO.lE
  refine lv_iload_n hx hb dX5_count_0 rfl (lv_at hl 1 rfl) ?_
  refine lv_tableIn (off := 119) (tgt := 120) hx hb dX5_count_1 (by decide) (by decide) (by decide) (by decide) ?_
  refine lv_aload_n hx hb dX5_count_120 rfl (lv_at hl 0 rfl) ?_
  refine va_get (D := G.1) (ci := 5) (v := .int (nI ns)) (C := RX5) (T := TX5) (N := 7) hx hb hts hinX5 hown hG.1 hP 0 rfl rfl 3 (by decide) hf29 (fun _ h9 => h9) rfl dX5_count_121 ?_
  exact hret _ _ _ _ _ dX5_count_124 hS (hP) (congrArg nI (rfl))
set_option maxHeartbeats 4000000 in
set_option maxRecDepth 100000 in
theorem kX5_count_12 (l : Launch) (G : zG) (m : Nat → Nat) (σ : Nat → Nat) (V : Nat → Nat → Nat) (ζ : Nat → Nat) (ns : Nat) (x : Nat → Nat) (len : Nat) (B : Nat → Int32) {N : Nat}  (hO : Ok N σ) (hns : ns ≤ 4) (hd : va_D (fun _ => True) (wM G m σ V ζ ns x len B)) : Met l yX5_count wsX5_count (zRm 7 163) (zPc G [.ref (m 0), .int (nI 12)] (va_P G.1 vwCl (wM G m σ V ζ ns x len B))) (zQ (zA (wM G m σ V ζ ns x len B)) (some (.int (nI (len)))) (va_P G.1 vwCl (wM G m σ V ζ ns x len B))) 0 0 (zA (wM G m σ V ζ ns x len B)) := by
  refine zmkWi (w := (wM G m σ V ζ ns x len B)) hd (cc := cX5_count) (maxL := 2) (by decide) rfl (Nat.le_of_ble_eq_true rfl) ?_
  intro pr en st mi ar bl me cd ls Q hx hb hml hown hts hG hP hl hD hS hret
  have hown : st.vm.findClass RX5 = some mi.cls := hown
  have hl : lv_has ls 2 [(0, .ref (m 0)), (1, .int (nI 12))] := hl
  have hP : va_P G.1 vwCl (wM G m σ V ζ ns x len B) st.heap := hP
  have hD : va_D (zA (wM G m σ V ζ ns x len B)) (wM G m σ V ζ ns x len B) := hD
  have hinX5 : ∀ w ∈ wsX50, w ∈ wsX5_count := by decide +kernel
  have hf157 := hts (.fieldLink RX5 157 "MapSheetsModel" "typed" "I") (by decide +kernel)
  have hc := hO.c
  have hs := hO.lS
  have hr := hO.lR
  have hne := hO.lE
  refine lv_iload_n hx hb dX5_count_0 rfl (lv_at hl 1 rfl) ?_
  refine lv_tableIn (off := 124) (tgt := 125) hx hb dX5_count_1 (by decide) (by decide) (by decide) (by decide) ?_
  refine lv_aload_n hx hb dX5_count_125 rfl (lv_at hl 0 rfl) ?_
  refine va_get (D := G.1) (ci := 5) (v := .int (nI len)) (C := RX5) (T := TX5) (N := 7) hx hb hts hinX5 hown hG.1 hP 0 rfl rfl 5 (by decide) hf157 (fun _ h9 => h9) rfl dX5_count_126 ?_
  exact hret _ _ _ _ _ dX5_count_129 hS (hP) (congrArg nI (rfl))
set_option maxHeartbeats 4000000 in
set_option maxRecDepth 100000 in
theorem kX5_count_13 (l : Launch) (G : zG) (m : Nat → Nat) (σ : Nat → Nat) (V : Nat → Nat → Nat) (ζ : Nat → Nat) (ns : Nat) (x : Nat → Nat) (len : Nat) (B : Nat → Int32) {N : Nat}  (hO : Ok N σ) (hns : ns ≤ 4) (hd : va_D (fun _ => True) (wM G m σ V ζ ns x len B)) : Met l yX5_count wsX5_count (zRm 7 163) (zPc G [.ref (m 0), .int (nI 13)] (va_P G.1 vwCl (wM G m σ V ζ ns x len B))) (zQ (zA (wM G m σ V ζ ns x len B)) (some (.int (nI (σ 2)))) (va_P G.1 vwCl (wM G m σ V ζ ns x len B))) 0 0 (zA (wM G m σ V ζ ns x len B)) := by
  refine zmkWi (w := (wM G m σ V ζ ns x len B)) hd (cc := cX5_count) (maxL := 2) (by decide) rfl (Nat.le_of_ble_eq_true rfl) ?_
  intro pr en st mi ar bl me cd ls Q hx hb hml hown hts hG hP hl hD hS hret
  have hown : st.vm.findClass RX5 = some mi.cls := hown
  have hl : lv_has ls 2 [(0, .ref (m 0)), (1, .int (nI 13))] := hl
  have hP : va_P G.1 vwCl (wM G m σ V ζ ns x len B) st.heap := hP
  have hD : va_D (zA (wM G m σ V ζ ns x len B)) (wM G m σ V ζ ns x len B) := hD
  have hinX5 : ∀ w ∈ wsX50, w ∈ wsX5_count := by decide +kernel
  have hf7 := hts (.fieldLink RX5 7 "MapSheetsModel" "s" "[I") (by decide +kernel)
  have hc := hO.c
  have hs := hO.lS
  have hr := hO.lR
  have hne := hO.lE
  refine lv_iload_n hx hb dX5_count_0 rfl (lv_at hl 1 rfl) ?_
  refine lv_tableIn (off := 129) (tgt := 130) hx hb dX5_count_1 (by decide) (by decide) (by decide) (by decide) ?_
  refine lv_aload_n hx hb dX5_count_130 rfl (lv_at hl 0 rfl) ?_
  refine va_get (D := G.1) (ci := 5) (v := .ref (m 1)) (C := RX5) (T := TX5) (N := 7) hx hb hts hinX5 hown hG.1 hP 0 rfl rfl 0 (by decide) hf7 (fun _ h9 => h9) rfl dX5_count_131 ?_
  refine lv_iconst (v := nI 2) hx hb dX5_count_134 (by decide) ?_
  refine lv_iload_n hx hb dX5_count_135 rfl (lv_at hl 1 rfl) ?_
  refine lv_iadd hx hb dX5_count_136 ?_
  refine lv_topi (nm_r (e' := nI (2 + 13)) (nI_add _ _) ?_)
  refine lv_bipush (v := nI 13) hx hb dX5_count_137 (by decide) ?_
  refine lv_isub hx hb dX5_count_139 ?_
  refine lv_topi (nm_r (e' := nI ((2 + 13) - 13)) (pk_sub (by omega)) ?_)
  refine va_iald hx hb hG.1 hP 1 0 rfl rfl (vp_in_nI (n := (2 + 13) - 13) (N := 1972) (by omega) (by omega)) dX5_count_140 ?_
  refine lv_topi (nm_r (e' := nI (σ ((2 + 13) - 13))) (by rw [nI_clamp (by omega)]; exact sF_n (by omega)) ?_)
  exact hret _ _ _ _ _ dX5_count_141 hS (hP) (congrArg nI (rfl))
set_option maxHeartbeats 4000000 in
set_option maxRecDepth 100000 in
theorem kX5_count_14 (l : Launch) (G : zG) (m : Nat → Nat) (σ : Nat → Nat) (V : Nat → Nat → Nat) (ζ : Nat → Nat) (ns : Nat) (x : Nat → Nat) (len : Nat) (B : Nat → Int32) {N : Nat}  (hO : Ok N σ) (hns : ns ≤ 4) (hd : va_D (fun _ => True) (wM G m σ V ζ ns x len B)) : Met l yX5_count wsX5_count (zRm 7 163) (zPc G [.ref (m 0), .int (nI 14)] (va_P G.1 vwCl (wM G m σ V ζ ns x len B))) (zQ (zA (wM G m σ V ζ ns x len B)) (some (.int (nI (σ 3)))) (va_P G.1 vwCl (wM G m σ V ζ ns x len B))) 0 0 (zA (wM G m σ V ζ ns x len B)) := by
  refine zmkWi (w := (wM G m σ V ζ ns x len B)) hd (cc := cX5_count) (maxL := 2) (by decide) rfl (Nat.le_of_ble_eq_true rfl) ?_
  intro pr en st mi ar bl me cd ls Q hx hb hml hown hts hG hP hl hD hS hret
  have hown : st.vm.findClass RX5 = some mi.cls := hown
  have hl : lv_has ls 2 [(0, .ref (m 0)), (1, .int (nI 14))] := hl
  have hP : va_P G.1 vwCl (wM G m σ V ζ ns x len B) st.heap := hP
  have hD : va_D (zA (wM G m σ V ζ ns x len B)) (wM G m σ V ζ ns x len B) := hD
  have hinX5 : ∀ w ∈ wsX50, w ∈ wsX5_count := by decide +kernel
  have hf7 := hts (.fieldLink RX5 7 "MapSheetsModel" "s" "[I") (by decide +kernel)
  have hc := hO.c
  have hs := hO.lS
  have hr := hO.lR
  have hne := hO.lE
  refine lv_iload_n hx hb dX5_count_0 rfl (lv_at hl 1 rfl) ?_
  refine lv_tableIn (off := 129) (tgt := 130) hx hb dX5_count_1 (by decide) (by decide) (by decide) (by decide) ?_
  refine lv_aload_n hx hb dX5_count_130 rfl (lv_at hl 0 rfl) ?_
  refine va_get (D := G.1) (ci := 5) (v := .ref (m 1)) (C := RX5) (T := TX5) (N := 7) hx hb hts hinX5 hown hG.1 hP 0 rfl rfl 0 (by decide) hf7 (fun _ h9 => h9) rfl dX5_count_131 ?_
  refine lv_iconst (v := nI 2) hx hb dX5_count_134 (by decide) ?_
  refine lv_iload_n hx hb dX5_count_135 rfl (lv_at hl 1 rfl) ?_
  refine lv_iadd hx hb dX5_count_136 ?_
  refine lv_topi (nm_r (e' := nI (2 + 14)) (nI_add _ _) ?_)
  refine lv_bipush (v := nI 13) hx hb dX5_count_137 (by decide) ?_
  refine lv_isub hx hb dX5_count_139 ?_
  refine lv_topi (nm_r (e' := nI ((2 + 14) - 13)) (pk_sub (by omega)) ?_)
  refine va_iald hx hb hG.1 hP 1 0 rfl rfl (vp_in_nI (n := (2 + 14) - 13) (N := 1972) (by omega) (by omega)) dX5_count_140 ?_
  refine lv_topi (nm_r (e' := nI (σ ((2 + 14) - 13))) (by rw [nI_clamp (by omega)]; exact sF_n (by omega)) ?_)
  exact hret _ _ _ _ _ dX5_count_141 hS (hP) (congrArg nI (rfl))
set_option maxHeartbeats 4000000 in
set_option maxRecDepth 100000 in
theorem kX5_undo_none (l : Launch) (G : zG) (m : Nat → Nat) (σ : Nat → Nat) (V : Nat → Nat → Nat) (ζ : Nat → Nat) (ns : Nat) (x : Nat → Nat) (len : Nat) (B : Nat → Int32) {N : Nat}  (hO : Ok N σ) (hns : ns ≤ 4) (hz : ns = 0) (hd : va_D (fun _ => True) (wM G m σ V ζ ns x len B)) : Met l yX5_undo wsX5_undo (zRm 0 0) (zPc G [.ref (m 0)] (va_P G.1 vwCl (wM G m σ V ζ ns x len B))) (zQ (zA (wM G m σ V ζ ns x len B)) (some (.int ((-2)))) (va_P G.1 vwCl (wM G m σ V ζ ns x len B))) 0 0 (zA (wM G m σ V ζ ns x len B)) := by
  refine zmkWi (w := (wM G m σ V ζ ns x len B)) hd (cc := cX5_undo) (maxL := 2) (by decide) rfl (Nat.le_of_ble_eq_true rfl) ?_
  intro pr en st mi ar bl me cd ls Q hx hb hml hown hts hG hP hl hD hS hret
  have hown : st.vm.findClass RX5 = some mi.cls := hown
  have hl : lv_has ls 2 [(0, .ref (m 0))] := hl
  have hP : va_P G.1 vwCl (wM G m σ V ζ ns x len B) st.heap := hP
  have hD : va_D (zA (wM G m σ V ζ ns x len B)) (wM G m σ V ζ ns x len B) := hD
  have hinX5 : ∀ w ∈ wsX50, w ∈ wsX5_undo := by decide +kernel
  have hf29 := hts (.fieldLink RX5 29 "MapSheetsModel" "states" "I") (by decide +kernel)
  have hc := hO.c
  have hs := hO.lS
  have hr := hO.lR
  have hne := hO.lE
  refine lv_aload_n hx hb dX5_undo_0 rfl (lv_at hl 0 rfl) ?_
  refine va_get (D := G.1) (ci := 5) (v := .int (nI ns)) (C := RX5) (T := TX5) (N := 7) hx hb hts hinX5 hown hG.1 hP 0 rfl rfl 3 (by decide) hf29 (fun _ h9 => h9) rfl dX5_undo_1 ?_
  refine lv_if_ne (tgt := 10) hx hb dX5_undo_4 (by decide) (fun h4 => ?_) (fun h4 => ?_)
  · skip
    have h4 : ¬ (ns = 0) := fun q => h4 ((z_eq0 (by omega)).mpr q)
    have h4 : 0 < ns := Nat.pos_of_ne_zero h4
    exfalso; omega
  · skip
    have h4 : ns = 0 := (z_eq0 (by omega)).mp h4
    refine lv_bipush (v := (-2)) hx hb dX5_undo_7 (by decide) ?_
    exact hret _ _ _ _ _ dX5_undo_9 hS (hP) (rfl)
set_option maxHeartbeats 4000000 in
set_option maxRecDepth 100000 in
theorem kX5_undo_ok (l : Launch) (G : zG) (m : Nat → Nat) (σ : Nat → Nat) (V : Nat → Nat → Nat) (ζ : Nat → Nat) (ns : Nat) (x : Nat → Nat) (len : Nat) (B : Nat → Int32) {N : Nat}  (hO : Ok N σ) (hns : ns ≤ 4) (hz : 1 ≤ ns) (hd : va_D (fun _ => True) (wM G m σ V ζ ns x len B)) : Met l yX5_undo wsX5_undo (zRm 0 0) (zPc G [.ref (m 0)] (va_P G.1 vwCl (wM G m σ V ζ ns x len B))) (zQ (zA (wM G m σ V ζ ns x len B)) (some (.int (nI (ns - 1)))) (va_P G.1 vwCl (wM G m (V (ns - 1)) V ζ (ns - 1) x len B))) 0 0 (zA (wM G m σ V ζ ns x len B)) := by
  refine zmkWi (w := (wM G m σ V ζ ns x len B)) hd (cc := cX5_undo) (maxL := 2) (by decide) rfl (Nat.le_of_ble_eq_true rfl) ?_
  intro pr en st mi ar bl me cd ls Q hx hb hml hown hts hG hP hl hD hS hret
  have hown : st.vm.findClass RX5 = some mi.cls := hown
  have hl : lv_has ls 2 [(0, .ref (m 0))] := hl
  have hP : va_P G.1 vwCl (wM G m σ V ζ ns x len B) st.heap := hP
  have hD : va_D (zA (wM G m σ V ζ ns x len B)) (wM G m σ V ζ ns x len B) := hD
  have hinX5 : ∀ w ∈ wsX50, w ∈ wsX5_undo := by decide +kernel
  have hf29 := hts (.fieldLink RX5 29 "MapSheetsModel" "states" "I") (by decide +kernel)
  have hf7 := hts (.fieldLink RX5 7 "MapSheetsModel" "s" "[I") (by decide +kernel)
  have hf13 := hts (.fieldLink RX5 13 "MapSheetsModel" "was" "[I") (by decide +kernel)
  have hc := hO.c
  have hs := hO.lS
  have hr := hO.lR
  have hne := hO.lE
  refine lv_aload_n hx hb dX5_undo_0 rfl (lv_at hl 0 rfl) ?_
  refine va_get (D := G.1) (ci := 5) (v := .int (nI ns)) (C := RX5) (T := TX5) (N := 7) hx hb hts hinX5 hown hG.1 hP 0 rfl rfl 3 (by decide) hf29 (fun _ h9 => h9) rfl dX5_undo_1 ?_
  refine lv_if_ne (tgt := 10) hx hb dX5_undo_4 (by decide) (fun h4 => ?_) (fun h4 => ?_)
  · skip
    have h4 : ¬ (ns = 0) := fun q => h4 ((z_eq0 (by omega)).mpr q)
    have h4 : 0 < ns := Nat.pos_of_ne_zero h4
    refine lv_aload_n hx hb dX5_undo_10 rfl (lv_at hl 0 rfl) ?_
    refine lv_dup hx hb dX5_undo_11 rfl ?_
    refine va_get (D := G.1) (ci := 5) (v := .int (nI ns)) (C := RX5) (T := TX5) (N := 7) hx hb hts hinX5 hown hG.1 hP 0 rfl rfl 3 (by decide) hf29 (fun _ h9 => h9) rfl dX5_undo_12 ?_
    refine lv_iconst (v := nI 1) hx hb dX5_undo_15 (by decide) ?_
    refine lv_isub hx hb dX5_undo_16 ?_
    refine lv_topi (nm_r (e' := nI (ns - 1)) (pk_sub (by omega)) ?_)
    refine va_put (D := G.1) (ci := 5) (v := .int (nI (ns - 1))) (ty := .int) (C := RX5) (T := TX5) (N := 7) hx hb hts hinX5 tyX5 tyX5_ok nmX5 hown hG.1 hP hD hS 0 rfl rfl 3 (by decide) hf29 (fun _ h9 => h9) rfl (by decide +kernel) rfl rfl (Nat.le_of_ble_eq_true rfl) dX5_undo_17 (fun H locs hP hD hS => ?_)
    have hP : va_P G.1 vwCl [(m 0, .inr (5, [.ref (m 1), .ref (m 2), .ref (m 3), .int (nI (ns - 1)), .ref (m 4), .int (nI len), .ref (m 5)])), (m 1, .inl (G.2.1, 1972, .inl (sF σ))), (m 2, .inl (G.2.1, 7888, .inl (wF V))), (m 3, .inl (G.2.1, 1972, .inl (sF ζ))), (m 4, .inl (G.2.1, 100, .inl (fun i => nI (x i)))), (m 5, .inl (G.2.1, 36, .inl B))] H := hP
    have hD : va_D (zA (wM G m σ V ζ ns x len B)) [(m 0, .inr (5, [.ref (m 1), .ref (m 2), .ref (m 3), .int (nI (ns - 1)), .ref (m 4), .int (nI len), .ref (m 5)])), (m 1, .inl (G.2.1, 1972, .inl (sF σ))), (m 2, .inl (G.2.1, 7888, .inl (wF V))), (m 3, .inl (G.2.1, 1972, .inl (sF ζ))), (m 4, .inl (G.2.1, 100, .inl (fun i => nI (x i)))), (m 5, .inl (G.2.1, 36, .inl B))] := hD
    refine lv_iconst (v := nI 0) hx hb dX5_undo_20 (by decide) ?_
    refine lv_istore_n (lv' := [(1, .int (nI 0)), (0, .ref (m 0))]) hx hb dX5_undo_21 rfl hl (by decide) rfl (fun ls hl => ?_)
    have loop22 : ∀ (n : Nat) (i : Nat) (g : Nat → Int32) (hg : ∀ j, j < i → g j = sF (V (ns - 1)) j) (hi : i ≤ 1972) (hn : 1972 < i + n) (ls : Array Slot) (hl : lv_has ls 2 [(0, .ref (m 0)), (1, .int (nI i))]) (H : Heap) (locs : List Loc) (hP : va_P G.1 vwCl [(m 0, .inr (5, [.ref (m 1), .ref (m 2), .ref (m 3), .int (nI (ns - 1)), .ref (m 4), .int (nI len), .ref (m 5)])), (m 1, .inl (G.2.1, 1972, .inl g)), (m 2, .inl (G.2.1, 7888, .inl (wF V))), (m 3, .inl (G.2.1, 1972, .inl (sF ζ))), (m 4, .inl (G.2.1, 100, .inl (fun i => nI (x i)))), (m 5, .inl (G.2.1, 36, .inl B))] H) (hD : va_D (zA (wM G m σ V ζ ns x len B)) [(m 0, .inr (5, [.ref (m 1), .ref (m 2), .ref (m 3), .int (nI (ns - 1)), .ref (m 4), .int (nI len), .ref (m 5)])), (m 1, .inl (G.2.1, 1972, .inl g)), (m 2, .inl (G.2.1, 7888, .inl (wF V))), (m 3, .inl (G.2.1, 1972, .inl (sF ζ))), (m 4, .inl (G.2.1, 100, .inl (fun i => nI (x i)))), (m 5, .inl (G.2.1, 36, .inl B))]) (hS : va_S (zA (wM G m σ V ζ ns x len B)) st.heap H locs), W pr l en (zRm 0 0) st mi ar bl me cd H locs 0 0 Q (F0 mi 22 ls []) := by
      intro n
      induction n with
      | zero => intro i g hg hi hn ls hl H locs hP hD hS; exfalso; omega
      | succ n ih22 =>
        intro i g hg hi hn ls hl H locs hP hD hS
        refine lv_iload_n hx hb dX5_undo_22 rfl (lv_at hl 1 rfl) ?_
        refine lv_sipush (v := nI 1972) hx hb dX5_undo_23 (by decide) ?_
        refine lv_icmp_ge (tgt := 56) hx hb dX5_undo_26 (by decide) (fun h26 => ?_) (fun h26 => ?_)
        · skip
          have h26 : 1972 ≤ i := (nI_leI (by omega) (by omega)).mp h26
          refine lv_aload_n hx hb dX5_undo_56 rfl (lv_at hl 0 rfl) ?_
          refine va_get (D := G.1) (ci := 5) (v := .int (nI (ns - 1))) (C := RX5) (T := TX5) (N := 7) hx hb hts hinX5 hown hG.1 hP 0 rfl rfl 3 (by decide) hf29 (fun _ h9 => h9) rfl dX5_undo_57 ?_
          exact hret _ _ _ _ _ dX5_undo_60 hS (wM_s (fun j hj => hg j (by omega)) (fun j _ => rfl) (fun j _ => rfl) (fun j _ => rfl) hP) (congrArg nI (rfl))
        · skip
          have h26 : ¬ (1972 ≤ i) := fun q => h26 ((nI_leI (by omega) (by omega)).mpr q)
          refine lv_aload_n hx hb dX5_undo_29 rfl (lv_at hl 0 rfl) ?_
          refine va_get (D := G.1) (ci := 5) (v := .ref (m 1)) (C := RX5) (T := TX5) (N := 7) hx hb hts hinX5 hown hG.1 hP 0 rfl rfl 0 (by decide) hf7 (fun _ h9 => h9) rfl dX5_undo_30 ?_
          refine lv_iload_n hx hb dX5_undo_33 rfl (lv_at hl 1 rfl) ?_
          refine lv_aload_n hx hb dX5_undo_34 rfl (lv_at hl 0 rfl) ?_
          refine va_get (D := G.1) (ci := 5) (v := .ref (m 2)) (C := RX5) (T := TX5) (N := 7) hx hb hts hinX5 hown hG.1 hP 0 rfl rfl 1 (by decide) hf13 (fun _ h9 => h9) rfl dX5_undo_35 ?_
          refine lv_sipush (v := nI 1972) hx hb dX5_undo_38 (by decide) ?_
          refine lv_aload_n hx hb dX5_undo_41 rfl (lv_at hl 0 rfl) ?_
          refine va_get (D := G.1) (ci := 5) (v := .int (nI (ns - 1))) (C := RX5) (T := TX5) (N := 7) hx hb hts hinX5 hown hG.1 hP 0 rfl rfl 3 (by decide) hf29 (fun _ h9 => h9) rfl dX5_undo_42 ?_
          refine lv_imul hx hb dX5_undo_45 ?_
          refine lv_topi (nm_r (e' := nI (1972 * (ns - 1))) (pk_mul _ _) ?_)
          refine lv_iload_n hx hb dX5_undo_46 rfl (lv_at hl 1 rfl) ?_
          refine lv_iadd hx hb dX5_undo_47 ?_
          refine lv_topi (nm_r (e' := nI ((1972 * (ns - 1)) + i)) (nI_add _ _) ?_)
          refine va_iald hx hb hG.1 hP 2 0 rfl rfl (vp_in_nI (n := (1972 * (ns - 1)) + i) (N := 7888) (by omega) (by omega)) dX5_undo_48 ?_
          refine lv_topi (nm_r (e' := (wF V) ((1972 * (ns - 1)) + i)) (by rw [nI_clamp (by omega)]) ?_)
          refine va_iast hx hb hG.1 hP hD hS 1 0 rfl rfl (vp_in_nI (n := i) (N := 1972) (by omega) (by omega)) dX5_undo_49 (fun H locs hP hD hS => ?_)
          rw [nI_clamp (show i < 2 ^ 31 by omega)] at hP hD
          have hP : va_P G.1 vwCl [(m 0, .inr (5, [.ref (m 1), .ref (m 2), .ref (m 3), .int (nI (ns - 1)), .ref (m 4), .int (nI len), .ref (m 5)])), (m 1, .inl (G.2.1, 1972, .inl (upd g i ((wF V) ((1972 * (ns - 1)) + i))))), (m 2, .inl (G.2.1, 7888, .inl (wF V))), (m 3, .inl (G.2.1, 1972, .inl (sF ζ))), (m 4, .inl (G.2.1, 100, .inl (fun i => nI (x i)))), (m 5, .inl (G.2.1, 36, .inl B))] H := hP
          have hD : va_D (zA (wM G m σ V ζ ns x len B)) [(m 0, .inr (5, [.ref (m 1), .ref (m 2), .ref (m 3), .int (nI (ns - 1)), .ref (m 4), .int (nI len), .ref (m 5)])), (m 1, .inl (G.2.1, 1972, .inl (upd g i ((wF V) ((1972 * (ns - 1)) + i))))), (m 2, .inl (G.2.1, 7888, .inl (wF V))), (m 3, .inl (G.2.1, 1972, .inl (sF ζ))), (m 4, .inl (G.2.1, 100, .inl (fun i => nI (x i)))), (m 5, .inl (G.2.1, 36, .inl B))] := hD
          refine lv_iinc (v := nI (i + 1)) (lv' := [(1, .int (nI (i + 1))), (0, .ref (m 0))]) hx hb dX5_undo_50 hl (k := 1) rfl (zinc1 _) (by decide) rfl (fun ls hl => ?_)
          refine lv_goto (tgt := 22) hx hb dX5_undo_53 (by decide) ?_
          exact ih22 (i + 1) (upd g i ((wF V) ((1972 * (ns - 1)) + i))) (fun j hj => by unfold upd; split; (rename_i q; rw [q, wF_at V (by omega)]); exact hg j (by omega)) (by omega) (by omega) _ (lv_sub hl [1, 0] rfl) _ _ (hP) (hD) hS
    exact loop22 1973 0 (sF σ) (fun j hj => absurd hj (Nat.not_lt_zero j)) (by omega) (by omega) _ (lv_sub hl [1, 0] rfl) _ _ (hP) (hD) hS
  · skip
    have h4 : ns = 0 := (z_eq0 (by omega)).mp h4
    exfalso; omega
