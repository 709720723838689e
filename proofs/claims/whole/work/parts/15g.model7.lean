set_option maxHeartbeats 4000000 in
set_option maxRecDepth 100000 in
theorem kX5_edge_inv (l : Launch) (G : zG) (m : Nat → Nat) (σ : Nat → Nat) (V : Nat → Nat → Nat) (ζ : Nat → Nat) (ns : Nat) (x : Nat → Nat) (len : Nat) (B : Nat → Int32) {N : Nat} (x1 : Int32) (x2 : Int32) (hO : Ok N σ) (hns : ns ≤ 4) (hv : ¬ (0 ≤ x1 ∧ x1 < nI (nE σ))) (hd : va_D (fun _ => True) (wM G m σ V ζ ns x len B)) : Met l yX5_edge wsX5_edge (zRm 6 138) (zPc G [.ref (m 0), .int x1, .int x2] (va_P G.1 vwCl (wM G m σ V ζ ns x len B))) (zQ (zA (wM G m σ V ζ ns x len B)) (some (.int ((-1)))) (va_P G.1 vwCl (wM G m σ V ζ ns x len B))) 0 0 (zA (wM G m σ V ζ ns x len B)) := by
  refine zmkWi (w := (wM G m σ V ζ ns x len B)) hd (cc := cX5_edge) (maxL := 3) (by decide) rfl (Nat.le_of_ble_eq_true rfl) ?_
  intro pr en st mi ar bl me cd ls Q hx hb hml hown hts hG hP hl hD hS hret
  have hown : st.vm.findClass RX5 = some mi.cls := hown
  have hl : lv_has ls 3 [(0, .ref (m 0)), (1, .int x1), (2, .int x2)] := hl
  have hP : va_P G.1 vwCl (wM G m σ V ζ ns x len B) st.heap := hP
  have hD : va_D (zA (wM G m σ V ζ ns x len B)) (wM G m σ V ζ ns x len B) := hD
  have hc := hO.c
  have hs := hO.lS
  have hr := hO.lR
  have hne := hO.lE
  refine lv_aload_n hx hb dX5_edge_0 rfl (lv_at hl 0 rfl) ?_
  refine lv_iload_n hx hb dX5_edge_1 rfl (lv_at hl 1 rfl) ?_
  refine zrdV (As := [.int x1]) ⟨hx, hb, hml, hown, hts⟩ (kX5_isEdge l G m σ V ζ ns x len B x1 (hO)) (cwV 1 hts gX5_edge_X5_isEdge rfl rfl rfl (by decide +kernel) ⟨Nat.le_of_ble_eq_true rfl, Nat.le_of_ble_eq_true rfl⟩) hG (va_recv (q0 := 0) (ci := 5) hG.1 hP rfl rfl) (hP) rfl rfl hl.1 dX5_edge_2 (Nat.le_of_ble_eq_true rfl) ⟨Nat.le_of_ble_eq_true rfl, Nat.le_of_ble_eq_true rfl⟩ ?_
  refine lv_if_eq (tgt := 18) hx hb dX5_edge_5 (by decide) (fun h5 => ?_) (fun h5 => ?_)
  · skip
    have h5 : ¬ (0 ≤ x1 ∧ x1 < nI (nE σ)) := (z_b0).mp h5
    refine lv_iconst (v := (-1)) hx hb dX5_edge_18 (by decide) ?_
    exact hret _ _ _ _ _ dX5_edge_19 hS (hP) (rfl)
  · skip
    have h5 : ¬ (¬ (0 ≤ x1 ∧ x1 < nI (nE σ))) := fun q => h5 ((z_b0).mpr q)
    have h5 : 0 ≤ x1 ∧ x1 < nI (nE σ) := Decidable.of_not_not h5
    exact absurd h5 hv
set_option maxHeartbeats 4000000 in
set_option maxRecDepth 100000 in
theorem kX5_edge_what (l : Launch) (G : zG) (m : Nat → Nat) (σ : Nat → Nat) (V : Nat → Nat → Nat) (ζ : Nat → Nat) (ns : Nat) (x : Nat → Nat) (len : Nat) (B : Nat → Int32) {N : Nat} (e : Nat) (x2 : Int32) (hO : Ok N σ) (hns : ns ≤ 4) (he : e < nE σ) (hv : ¬ (nI 0 ≤ x2 ∧ x2 ≤ nI 6)) (hd : va_D (fun _ => True) (wM G m σ V ζ ns x len B)) : Met l yX5_edge wsX5_edge (zRm 6 138) (zPc G [.ref (m 0), .int (nI e), .int x2] (va_P G.1 vwCl (wM G m σ V ζ ns x len B))) (zQ (zA (wM G m σ V ζ ns x len B)) (some (.int ((-1)))) (va_P G.1 vwCl (wM G m σ V ζ ns x len B))) 0 0 (zA (wM G m σ V ζ ns x len B)) := by
  refine zmkWi (w := (wM G m σ V ζ ns x len B)) hd (cc := cX5_edge) (maxL := 3) (by decide) rfl (Nat.le_of_ble_eq_true rfl) ?_
  intro pr en st mi ar bl me cd ls Q hx hb hml hown hts hG hP hl hD hS hret
  have hown : st.vm.findClass RX5 = some mi.cls := hown
  have hl : lv_has ls 3 [(0, .ref (m 0)), (1, .int (nI e)), (2, .int x2)] := hl
  have hP : va_P G.1 vwCl (wM G m σ V ζ ns x len B) st.heap := hP
  have hD : va_D (zA (wM G m σ V ζ ns x len B)) (wM G m σ V ζ ns x len B) := hD
  have hc := hO.c
  have hs := hO.lS
  have hr := hO.lR
  have hne := hO.lE
  have hve : 0 ≤ nI e ∧ nI e < nI (nE σ) := z_in he (by omega)
  refine lv_aload_n hx hb dX5_edge_0 rfl (lv_at hl 0 rfl) ?_
  refine lv_iload_n hx hb dX5_edge_1 rfl (lv_at hl 1 rfl) ?_
  refine zrdV (As := [.int (nI e)]) ⟨hx, hb, hml, hown, hts⟩ (kX5_isEdge l G m σ V ζ ns x len B (nI e) (hO)) (cwV 1 hts gX5_edge_X5_isEdge rfl rfl rfl (by decide +kernel) ⟨Nat.le_of_ble_eq_true rfl, Nat.le_of_ble_eq_true rfl⟩) hG (va_recv (q0 := 0) (ci := 5) hG.1 hP rfl rfl) (hP) rfl rfl hl.1 dX5_edge_2 (Nat.le_of_ble_eq_true rfl) ⟨Nat.le_of_ble_eq_true rfl, Nat.le_of_ble_eq_true rfl⟩ ?_
  refine lv_if_eq (tgt := 18) hx hb dX5_edge_5 (by decide) (fun h5 => ?_) (fun h5 => ?_)
  · skip
    have h5 : ¬ (0 ≤ (nI e) ∧ (nI e) < nI (nE σ)) := (z_b0).mp h5
    exact absurd hve h5
  · skip
    have h5 : ¬ (¬ (0 ≤ (nI e) ∧ (nI e) < nI (nE σ))) := fun q => h5 ((z_b0).mpr q)
    have h5 : 0 ≤ (nI e) ∧ (nI e) < nI (nE σ) := Decidable.of_not_not h5
    refine lv_iload_n hx hb dX5_edge_8 rfl (lv_at hl 2 rfl) ?_
    refine lv_iconst (v := nI 0) hx hb dX5_edge_9 (by decide) ?_
    refine lv_bipush (v := nI 6) hx hb dX5_edge_10 (by decide) ?_
    refine zrdS (As := [.int x2, .int (nI 0), .int (nI 6)]) ⟨hx, hb, hml, hown, hts⟩ (kX5_in l G  x2 (nI 0) (nI 6)) (va_cwS 3 hts gX5_edge_X5_in rfl rfl rfl (by decide +kernel) ⟨Nat.le_of_ble_eq_true rfl, Nat.le_of_ble_eq_true rfl⟩) hG (trivial) rfl rfl hl.1 dX5_edge_12 (Nat.le_of_ble_eq_true rfl) ⟨Nat.le_of_ble_eq_true rfl, Nat.le_of_ble_eq_true rfl⟩ ?_
    refine lv_if_ne (tgt := 20) hx hb dX5_edge_15 (by decide) (fun h15 => ?_) (fun h15 => ?_)
    · skip
      have h15 : ¬ (¬ ((nI 0) ≤ x2 ∧ x2 ≤ (nI 6))) := fun q => h15 ((z_b0).mpr q)
      have h15 : (nI 0) ≤ x2 ∧ x2 ≤ (nI 6) := Decidable.of_not_not h15
      exact absurd h15 hv
    · skip
      have h15 : ¬ ((nI 0) ≤ x2 ∧ x2 ≤ (nI 6)) := (z_b0).mp h15
      refine lv_iconst (v := (-1)) hx hb dX5_edge_18 (by decide) ?_
      exact hret _ _ _ _ _ dX5_edge_19 hS (hP) (rfl)
set_option maxHeartbeats 4000000 in
set_option maxRecDepth 100000 in
theorem kX5_edge_0 (l : Launch) (G : zG) (m : Nat → Nat) (σ : Nat → Nat) (V : Nat → Nat → Nat) (ζ : Nat → Nat) (ns : Nat) (x : Nat → Nat) (len : Nat) (B : Nat → Int32) {N : Nat} (e : Nat) (hO : Ok N σ) (hns : ns ≤ 4) (he : e < nE σ) (hd : va_D (fun _ => True) (wM G m σ V ζ ns x len B)) : Met l yX5_edge wsX5_edge (zRm 6 138) (zPc G [.ref (m 0), .int (nI e), .int (nI 0)] (va_P G.1 vwCl (wM G m σ V ζ ns x len B))) (zQ (zA (wM G m σ V ζ ns x len B)) (some (.int (nI (fS σ e)))) (va_P G.1 vwCl (wM G m σ V ζ ns x len B))) 0 0 (zA (wM G m σ V ζ ns x len B)) := by
  refine zmkWi (w := (wM G m σ V ζ ns x len B)) hd (cc := cX5_edge) (maxL := 3) (by decide) rfl (Nat.le_of_ble_eq_true rfl) ?_
  intro pr en st mi ar bl me cd ls Q hx hb hml hown hts hG hP hl hD hS hret
  have hown : st.vm.findClass RX5 = some mi.cls := hown
  have hl : lv_has ls 3 [(0, .ref (m 0)), (1, .int (nI e)), (2, .int (nI 0))] := hl
  have hP : va_P G.1 vwCl (wM G m σ V ζ ns x len B) st.heap := hP
  have hD : va_D (zA (wM G m σ V ζ ns x len B)) (wM G m σ V ζ ns x len B) := hD
  have hc := hO.c
  have hs := hO.lS
  have hr := hO.lR
  have hne := hO.lE
  have hve : 0 ≤ nI e ∧ nI e < nI (nE σ) := z_in he (by omega)
  have hvw : nI 0 ≤ nI 0 ∧ nI 0 ≤ nI 6 := by decide
  have hag : σ (4 + e) ≤ 1 := hO.ag (show e < 60 by omega)
  refine lv_aload_n hx hb dX5_edge_0 rfl (lv_at hl 0 rfl) ?_
  refine lv_iload_n hx hb dX5_edge_1 rfl (lv_at hl 1 rfl) ?_
  refine zrdV (As := [.int (nI e)]) ⟨hx, hb, hml, hown, hts⟩ (kX5_isEdge l G m σ V ζ ns x len B (nI e) (hO)) (cwV 1 hts gX5_edge_X5_isEdge rfl rfl rfl (by decide +kernel) ⟨Nat.le_of_ble_eq_true rfl, Nat.le_of_ble_eq_true rfl⟩) hG (va_recv (q0 := 0) (ci := 5) hG.1 hP rfl rfl) (hP) rfl rfl hl.1 dX5_edge_2 (Nat.le_of_ble_eq_true rfl) ⟨Nat.le_of_ble_eq_true rfl, Nat.le_of_ble_eq_true rfl⟩ ?_
  refine lv_if_eq (tgt := 18) hx hb dX5_edge_5 (by decide) (fun h5 => ?_) (fun h5 => ?_)
  · skip
    have h5 : ¬ (0 ≤ (nI e) ∧ (nI e) < nI (nE σ)) := (z_b0).mp h5
    exact absurd hve h5
  · skip
    have h5 : ¬ (¬ (0 ≤ (nI e) ∧ (nI e) < nI (nE σ))) := fun q => h5 ((z_b0).mpr q)
    have h5 : 0 ≤ (nI e) ∧ (nI e) < nI (nE σ) := Decidable.of_not_not h5
    refine lv_iload_n hx hb dX5_edge_8 rfl (lv_at hl 2 rfl) ?_
    refine lv_iconst (v := nI 0) hx hb dX5_edge_9 (by decide) ?_
    refine lv_bipush (v := nI 6) hx hb dX5_edge_10 (by decide) ?_
    refine zrdS (As := [.int (nI 0), .int (nI 0), .int (nI 6)]) ⟨hx, hb, hml, hown, hts⟩ (kX5_in l G  (nI 0) (nI 0) (nI 6)) (va_cwS 3 hts gX5_edge_X5_in rfl rfl rfl (by decide +kernel) ⟨Nat.le_of_ble_eq_true rfl, Nat.le_of_ble_eq_true rfl⟩) hG (trivial) rfl rfl hl.1 dX5_edge_12 (Nat.le_of_ble_eq_true rfl) ⟨Nat.le_of_ble_eq_true rfl, Nat.le_of_ble_eq_true rfl⟩ ?_
    refine lv_if_ne (tgt := 20) hx hb dX5_edge_15 (by decide) (fun h15 => ?_) (fun h15 => ?_)
    · skip
      have h15 : ¬ (¬ ((nI 0) ≤ (nI 0) ∧ (nI 0) ≤ (nI 6))) := fun q => h15 ((z_b0).mpr q)
      have h15 : (nI 0) ≤ (nI 0) ∧ (nI 0) ≤ (nI 6) := Decidable.of_not_not h15
      refine lv_iload_n hx hb dX5_edge_20 rfl (lv_at hl 2 rfl) ?_
      refine lv_tableIn (off := 39) (tgt := 60) hx hb dX5_edge_21 (by decide) (by decide) (by decide) (by decide) ?_
      refine lv_aload_n hx hb dX5_edge_60 rfl (lv_at hl 0 rfl) ?_
      refine lv_iload_n hx hb dX5_edge_61 rfl (lv_at hl 1 rfl) ?_
      refine zrdV (As := [.int (nI e)]) ⟨hx, hb, hml, hown, hts⟩ (kX5_firstOf l G m σ V ζ ns x len B e (hO) (by omega)) (cwV 1 hts gX5_edge_X5_firstOf rfl rfl rfl (by decide +kernel) ⟨Nat.le_of_ble_eq_true rfl, Nat.le_of_ble_eq_true rfl⟩) hG (va_recv (q0 := 0) (ci := 5) hG.1 hP rfl rfl) (hP) rfl rfl hl.1 dX5_edge_62 (Nat.le_of_ble_eq_true rfl) ⟨Nat.le_of_ble_eq_true rfl, Nat.le_of_ble_eq_true rfl⟩ ?_
      have hf62_0 := hO.lF (show e < nE σ by omega)
      exact hret _ _ _ _ _ dX5_edge_65 hS (hP) (congrArg nI (rfl))
    · skip
      have h15 : ¬ ((nI 0) ≤ (nI 0) ∧ (nI 0) ≤ (nI 6)) := (z_b0).mp h15
      exact absurd hvw h15
set_option maxHeartbeats 4000000 in
set_option maxRecDepth 100000 in
theorem kX5_edge_1 (l : Launch) (G : zG) (m : Nat → Nat) (σ : Nat → Nat) (V : Nat → Nat → Nat) (ζ : Nat → Nat) (ns : Nat) (x : Nat → Nat) (len : Nat) (B : Nat → Int32) {N : Nat} (e : Nat) (hO : Ok N σ) (hns : ns ≤ 4) (he : e < nE σ) (hd : va_D (fun _ => True) (wM G m σ V ζ ns x len B)) : Met l yX5_edge wsX5_edge (zRm 6 138) (zPc G [.ref (m 0), .int (nI e), .int (nI 1)] (va_P G.1 vwCl (wM G m σ V ζ ns x len B))) (zQ (zA (wM G m σ V ζ ns x len B)) (some (.int (nI (sS σ e)))) (va_P G.1 vwCl (wM G m σ V ζ ns x len B))) 0 0 (zA (wM G m σ V ζ ns x len B)) := by
  refine zmkWi (w := (wM G m σ V ζ ns x len B)) hd (cc := cX5_edge) (maxL := 3) (by decide) rfl (Nat.le_of_ble_eq_true rfl) ?_
  intro pr en st mi ar bl me cd ls Q hx hb hml hown hts hG hP hl hD hS hret
  have hown : st.vm.findClass RX5 = some mi.cls := hown
  have hl : lv_has ls 3 [(0, .ref (m 0)), (1, .int (nI e)), (2, .int (nI 1))] := hl
  have hP : va_P G.1 vwCl (wM G m σ V ζ ns x len B) st.heap := hP
  have hD : va_D (zA (wM G m σ V ζ ns x len B)) (wM G m σ V ζ ns x len B) := hD
  have hc := hO.c
  have hs := hO.lS
  have hr := hO.lR
  have hne := hO.lE
  have hve : 0 ≤ nI e ∧ nI e < nI (nE σ) := z_in he (by omega)
  have hvw : nI 0 ≤ nI 1 ∧ nI 1 ≤ nI 6 := by decide
  have hag : σ (4 + e) ≤ 1 := hO.ag (show e < 60 by omega)
  refine lv_aload_n hx hb dX5_edge_0 rfl (lv_at hl 0 rfl) ?_
  refine lv_iload_n hx hb dX5_edge_1 rfl (lv_at hl 1 rfl) ?_
  refine zrdV (As := [.int (nI e)]) ⟨hx, hb, hml, hown, hts⟩ (kX5_isEdge l G m σ V ζ ns x len B (nI e) (hO)) (cwV 1 hts gX5_edge_X5_isEdge rfl rfl rfl (by decide +kernel) ⟨Nat.le_of_ble_eq_true rfl, Nat.le_of_ble_eq_true rfl⟩) hG (va_recv (q0 := 0) (ci := 5) hG.1 hP rfl rfl) (hP) rfl rfl hl.1 dX5_edge_2 (Nat.le_of_ble_eq_true rfl) ⟨Nat.le_of_ble_eq_true rfl, Nat.le_of_ble_eq_true rfl⟩ ?_
  refine lv_if_eq (tgt := 18) hx hb dX5_edge_5 (by decide) (fun h5 => ?_) (fun h5 => ?_)
  · skip
    have h5 : ¬ (0 ≤ (nI e) ∧ (nI e) < nI (nE σ)) := (z_b0).mp h5
    exact absurd hve h5
  · skip
    have h5 : ¬ (¬ (0 ≤ (nI e) ∧ (nI e) < nI (nE σ))) := fun q => h5 ((z_b0).mpr q)
    have h5 : 0 ≤ (nI e) ∧ (nI e) < nI (nE σ) := Decidable.of_not_not h5
    refine lv_iload_n hx hb dX5_edge_8 rfl (lv_at hl 2 rfl) ?_
    refine lv_iconst (v := nI 0) hx hb dX5_edge_9 (by decide) ?_
    refine lv_bipush (v := nI 6) hx hb dX5_edge_10 (by decide) ?_
    refine zrdS (As := [.int (nI 1), .int (nI 0), .int (nI 6)]) ⟨hx, hb, hml, hown, hts⟩ (kX5_in l G  (nI 1) (nI 0) (nI 6)) (va_cwS 3 hts gX5_edge_X5_in rfl rfl rfl (by decide +kernel) ⟨Nat.le_of_ble_eq_true rfl, Nat.le_of_ble_eq_true rfl⟩) hG (trivial) rfl rfl hl.1 dX5_edge_12 (Nat.le_of_ble_eq_true rfl) ⟨Nat.le_of_ble_eq_true rfl, Nat.le_of_ble_eq_true rfl⟩ ?_
    refine lv_if_ne (tgt := 20) hx hb dX5_edge_15 (by decide) (fun h15 => ?_) (fun h15 => ?_)
    · skip
      have h15 : ¬ (¬ ((nI 0) ≤ (nI 1) ∧ (nI 1) ≤ (nI 6))) := fun q => h15 ((z_b0).mpr q)
      have h15 : (nI 0) ≤ (nI 1) ∧ (nI 1) ≤ (nI 6) := Decidable.of_not_not h15
      refine lv_iload_n hx hb dX5_edge_20 rfl (lv_at hl 2 rfl) ?_
      refine lv_tableIn (off := 45) (tgt := 66) hx hb dX5_edge_21 (by decide) (by decide) (by decide) (by decide) ?_
      refine lv_aload_n hx hb dX5_edge_66 rfl (lv_at hl 0 rfl) ?_
      refine lv_iload_n hx hb dX5_edge_67 rfl (lv_at hl 1 rfl) ?_
      refine zrdV (As := [.int (nI e)]) ⟨hx, hb, hml, hown, hts⟩ (kX5_secondOf l G m σ V ζ ns x len B e (hO) (by omega)) (cwV 1 hts gX5_edge_X5_secondOf rfl rfl rfl (by decide +kernel) ⟨Nat.le_of_ble_eq_true rfl, Nat.le_of_ble_eq_true rfl⟩) hG (va_recv (q0 := 0) (ci := 5) hG.1 hP rfl rfl) (hP) rfl rfl hl.1 dX5_edge_68 (Nat.le_of_ble_eq_true rfl) ⟨Nat.le_of_ble_eq_true rfl, Nat.le_of_ble_eq_true rfl⟩ ?_
      have hf68_0 := hO.lF (show e < nE σ by omega)
      exact hret _ _ _ _ _ dX5_edge_71 hS (hP) (congrArg nI (rfl))
    · skip
      have h15 : ¬ ((nI 0) ≤ (nI 1) ∧ (nI 1) ≤ (nI 6)) := (z_b0).mp h15
      exact absurd hvw h15
set_option maxHeartbeats 4000000 in
set_option maxRecDepth 100000 in
theorem kX5_edge_2 (l : Launch) (G : zG) (m : Nat → Nat) (σ : Nat → Nat) (V : Nat → Nat → Nat) (ζ : Nat → Nat) (ns : Nat) (x : Nat → Nat) (len : Nat) (B : Nat → Int32) {N : Nat} (e : Nat) (hO : Ok N σ) (hns : ns ≤ 4) (he : e < nE σ) (hd : va_D (fun _ => True) (wM G m σ V ζ ns x len B)) : Met l yX5_edge wsX5_edge (zRm 6 138) (zPc G [.ref (m 0), .int (nI e), .int (nI 2)] (va_P G.1 vwCl (wM G m σ V ζ ns x len B))) (zQ (zA (wM G m σ V ζ ns x len B)) (some (.int (nI (fD σ e)))) (va_P G.1 vwCl (wM G m σ V ζ ns x len B))) 0 0 (zA (wM G m σ V ζ ns x len B)) := by
  refine zmkWi (w := (wM G m σ V ζ ns x len B)) hd (cc := cX5_edge) (maxL := 3) (by decide) rfl (Nat.le_of_ble_eq_true rfl) ?_
  intro pr en st mi ar bl me cd ls Q hx hb hml hown hts hG hP hl hD hS hret
  have hown : st.vm.findClass RX5 = some mi.cls := hown
  have hl : lv_has ls 3 [(0, .ref (m 0)), (1, .int (nI e)), (2, .int (nI 2))] := hl
  have hP : va_P G.1 vwCl (wM G m σ V ζ ns x len B) st.heap := hP
  have hD : va_D (zA (wM G m σ V ζ ns x len B)) (wM G m σ V ζ ns x len B) := hD
  have hc := hO.c
  have hs := hO.lS
  have hr := hO.lR
  have hne := hO.lE
  have hve : 0 ≤ nI e ∧ nI e < nI (nE σ) := z_in he (by omega)
  have hvw : nI 0 ≤ nI 2 ∧ nI 2 ≤ nI 6 := by decide
  have hag : σ (4 + e) ≤ 1 := hO.ag (show e < 60 by omega)
  refine lv_aload_n hx hb dX5_edge_0 rfl (lv_at hl 0 rfl) ?_
  refine lv_iload_n hx hb dX5_edge_1 rfl (lv_at hl 1 rfl) ?_
  refine zrdV (As := [.int (nI e)]) ⟨hx, hb, hml, hown, hts⟩ (kX5_isEdge l G m σ V ζ ns x len B (nI e) (hO)) (cwV 1 hts gX5_edge_X5_isEdge rfl rfl rfl (by decide +kernel) ⟨Nat.le_of_ble_eq_true rfl, Nat.le_of_ble_eq_true rfl⟩) hG (va_recv (q0 := 0) (ci := 5) hG.1 hP rfl rfl) (hP) rfl rfl hl.1 dX5_edge_2 (Nat.le_of_ble_eq_true rfl) ⟨Nat.le_of_ble_eq_true rfl, Nat.le_of_ble_eq_true rfl⟩ ?_
  refine lv_if_eq (tgt := 18) hx hb dX5_edge_5 (by decide) (fun h5 => ?_) (fun h5 => ?_)
  · skip
    have h5 : ¬ (0 ≤ (nI e) ∧ (nI e) < nI (nE σ)) := (z_b0).mp h5
    exact absurd hve h5
  · skip
    have h5 : ¬ (¬ (0 ≤ (nI e) ∧ (nI e) < nI (nE σ))) := fun q => h5 ((z_b0).mpr q)
    have h5 : 0 ≤ (nI e) ∧ (nI e) < nI (nE σ) := Decidable.of_not_not h5
    refine lv_iload_n hx hb dX5_edge_8 rfl (lv_at hl 2 rfl) ?_
    refine lv_iconst (v := nI 0) hx hb dX5_edge_9 (by decide) ?_
    refine lv_bipush (v := nI 6) hx hb dX5_edge_10 (by decide) ?_
    refine zrdS (As := [.int (nI 2), .int (nI 0), .int (nI 6)]) ⟨hx, hb, hml, hown, hts⟩ (kX5_in l G  (nI 2) (nI 0) (nI 6)) (va_cwS 3 hts gX5_edge_X5_in rfl rfl rfl (by decide +kernel) ⟨Nat.le_of_ble_eq_true rfl, Nat.le_of_ble_eq_true rfl⟩) hG (trivial) rfl rfl hl.1 dX5_edge_12 (Nat.le_of_ble_eq_true rfl) ⟨Nat.le_of_ble_eq_true rfl, Nat.le_of_ble_eq_true rfl⟩ ?_
    refine lv_if_ne (tgt := 20) hx hb dX5_edge_15 (by decide) (fun h15 => ?_) (fun h15 => ?_)
    · skip
      have h15 : ¬ (¬ ((nI 0) ≤ (nI 2) ∧ (nI 2) ≤ (nI 6))) := fun q => h15 ((z_b0).mpr q)
      have h15 : (nI 0) ≤ (nI 2) ∧ (nI 2) ≤ (nI 6) := Decidable.of_not_not h15
      refine lv_iload_n hx hb dX5_edge_20 rfl (lv_at hl 2 rfl) ?_
      refine lv_tableIn (off := 51) (tgt := 72) hx hb dX5_edge_21 (by decide) (by decide) (by decide) (by decide) ?_
      refine lv_aload_n hx hb dX5_edge_72 rfl (lv_at hl 0 rfl) ?_
      refine lv_iload_n hx hb dX5_edge_73 rfl (lv_at hl 1 rfl) ?_
      refine zrdV (As := [.int (nI e)]) ⟨hx, hb, hml, hown, hts⟩ (kX5_sideOf l G m σ V ζ ns x len B e (hO) (by omega)) (cwV 1 hts gX5_edge_X5_sideOf rfl rfl rfl (by decide +kernel) ⟨Nat.le_of_ble_eq_true rfl, Nat.le_of_ble_eq_true rfl⟩) hG (va_recv (q0 := 0) (ci := 5) hG.1 hP rfl rfl) (hP) rfl rfl hl.1 dX5_edge_74 (Nat.le_of_ble_eq_true rfl) ⟨Nat.le_of_ble_eq_true rfl, Nat.le_of_ble_eq_true rfl⟩ ?_
      have hf74_0 := fD_lt σ (e)
      exact hret _ _ _ _ _ dX5_edge_77 hS (hP) (congrArg nI (rfl))
    · skip
      have h15 : ¬ ((nI 0) ≤ (nI 2) ∧ (nI 2) ≤ (nI 6)) := (z_b0).mp h15
      exact absurd hvw h15
set_option maxHeartbeats 4000000 in
set_option maxRecDepth 100000 in
theorem kX5_edge_3 (l : Launch) (G : zG) (m : Nat → Nat) (σ : Nat → Nat) (V : Nat → Nat → Nat) (ζ : Nat → Nat) (ns : Nat) (x : Nat → Nat) (len : Nat) (B : Nat → Int32) {N : Nat} (e : Nat) (hO : Ok N σ) (hns : ns ≤ 4) (he : e < nE σ) (hd : va_D (fun _ => True) (wM G m σ V ζ ns x len B)) : Met l yX5_edge wsX5_edge (zRm 6 138) (zPc G [.ref (m 0), .int (nI e), .int (nI 3)] (va_P G.1 vwCl (wM G m σ V ζ ns x len B))) (zQ (zA (wM G m σ V ζ ns x len B)) (some (.int (if agn σ e = 1 then nI 1 else nI 0))) (va_P G.1 vwCl (wM G m σ V ζ ns x len B))) 0 0 (zA (wM G m σ V ζ ns x len B)) := by
  refine zmkWi (w := (wM G m σ V ζ ns x len B)) hd (cc := cX5_edge) (maxL := 3) (by decide) rfl (Nat.le_of_ble_eq_true rfl) ?_
  intro pr en st mi ar bl me cd ls Q hx hb hml hown hts hG hP hl hD hS hret
  have hown : st.vm.findClass RX5 = some mi.cls := hown
  have hl : lv_has ls 3 [(0, .ref (m 0)), (1, .int (nI e)), (2, .int (nI 3))] := hl
  have hP : va_P G.1 vwCl (wM G m σ V ζ ns x len B) st.heap := hP
  have hD : va_D (zA (wM G m σ V ζ ns x len B)) (wM G m σ V ζ ns x len B) := hD
  have hinX5 : ∀ w ∈ wsX50, w ∈ wsX5_edge := by decide +kernel
  have hf7 := hts (.fieldLink RX5 7 "MapSheetsModel" "s" "[I") (by decide +kernel)
  have hc := hO.c
  have hs := hO.lS
  have hr := hO.lR
  have hne := hO.lE
  have hve : 0 ≤ nI e ∧ nI e < nI (nE σ) := z_in he (by omega)
  have hvw : nI 0 ≤ nI 3 ∧ nI 3 ≤ nI 6 := by decide
  have hag : σ (4 + e) ≤ 1 := hO.ag (show e < 60 by omega)
  refine lv_aload_n hx hb dX5_edge_0 rfl (lv_at hl 0 rfl) ?_
  refine lv_iload_n hx hb dX5_edge_1 rfl (lv_at hl 1 rfl) ?_
  refine zrdV (As := [.int (nI e)]) ⟨hx, hb, hml, hown, hts⟩ (kX5_isEdge l G m σ V ζ ns x len B (nI e) (hO)) (cwV 1 hts gX5_edge_X5_isEdge rfl rfl rfl (by decide +kernel) ⟨Nat.le_of_ble_eq_true rfl, Nat.le_of_ble_eq_true rfl⟩) hG (va_recv (q0 := 0) (ci := 5) hG.1 hP rfl rfl) (hP) rfl rfl hl.1 dX5_edge_2 (Nat.le_of_ble_eq_true rfl) ⟨Nat.le_of_ble_eq_true rfl, Nat.le_of_ble_eq_true rfl⟩ ?_
  refine lv_if_eq (tgt := 18) hx hb dX5_edge_5 (by decide) (fun h5 => ?_) (fun h5 => ?_)
  · skip
    have h5 : ¬ (0 ≤ (nI e) ∧ (nI e) < nI (nE σ)) := (z_b0).mp h5
    exact absurd hve h5
  · skip
    have h5 : ¬ (¬ (0 ≤ (nI e) ∧ (nI e) < nI (nE σ))) := fun q => h5 ((z_b0).mpr q)
    have h5 : 0 ≤ (nI e) ∧ (nI e) < nI (nE σ) := Decidable.of_not_not h5
    refine lv_iload_n hx hb dX5_edge_8 rfl (lv_at hl 2 rfl) ?_
    refine lv_iconst (v := nI 0) hx hb dX5_edge_9 (by decide) ?_
    refine lv_bipush (v := nI 6) hx hb dX5_edge_10 (by decide) ?_
    refine zrdS (As := [.int (nI 3), .int (nI 0), .int (nI 6)]) ⟨hx, hb, hml, hown, hts⟩ (kX5_in l G  (nI 3) (nI 0) (nI 6)) (va_cwS 3 hts gX5_edge_X5_in rfl rfl rfl (by decide +kernel) ⟨Nat.le_of_ble_eq_true rfl, Nat.le_of_ble_eq_true rfl⟩) hG (trivial) rfl rfl hl.1 dX5_edge_12 (Nat.le_of_ble_eq_true rfl) ⟨Nat.le_of_ble_eq_true rfl, Nat.le_of_ble_eq_true rfl⟩ ?_
    refine lv_if_ne (tgt := 20) hx hb dX5_edge_15 (by decide) (fun h15 => ?_) (fun h15 => ?_)
    · skip
      have h15 : ¬ (¬ ((nI 0) ≤ (nI 3) ∧ (nI 3) ≤ (nI 6))) := fun q => h15 ((z_b0).mpr q)
      have h15 : (nI 0) ≤ (nI 3) ∧ (nI 3) ≤ (nI 6) := Decidable.of_not_not h15
      refine lv_iload_n hx hb dX5_edge_20 rfl (lv_at hl 2 rfl) ?_
      refine lv_tableIn (off := 57) (tgt := 78) hx hb dX5_edge_21 (by decide) (by decide) (by decide) (by decide) ?_
      refine lv_aload_n hx hb dX5_edge_78 rfl (lv_at hl 0 rfl) ?_
      refine va_get (D := G.1) (ci := 5) (v := .ref (m 1)) (C := RX5) (T := TX5) (N := 7) hx hb hts hinX5 hown hG.1 hP 0 rfl rfl 0 (by decide) hf7 (fun _ h9 => h9) rfl dX5_edge_79 ?_
      refine lv_iconst (v := nI 4) hx hb dX5_edge_82 (by decide) ?_
      refine lv_iload_n hx hb dX5_edge_83 rfl (lv_at hl 1 rfl) ?_
      refine lv_iadd hx hb dX5_edge_84 ?_
      refine lv_topi (nm_r (e' := nI (4 + e)) (nI_add _ _) ?_)
      refine va_iald hx hb hG.1 hP 1 0 rfl rfl (vp_in_nI (n := 4 + e) (N := 1972) (by omega) (by omega)) dX5_edge_85 ?_
      refine lv_topi (nm_r (e' := nI (σ (4 + e))) (by rw [nI_clamp (by omega)]; exact sF_n (by omega)) ?_)
      exact hret _ _ _ _ _ dX5_edge_86 hS (hP) (by by_cases q : σ (4 + e) = 1; (rw [q, if_pos (show agn σ e = 1 from q)]); (rw [if_neg (show ¬ agn σ e = 1 from q), show σ (4 + e) = 0 by omega]))
    · skip
      have h15 : ¬ ((nI 0) ≤ (nI 3) ∧ (nI 3) ≤ (nI 6)) := (z_b0).mp h15
      exact absurd hvw h15
set_option maxHeartbeats 4000000 in
set_option maxRecDepth 100000 in
theorem kX5_edge_4 (l : Launch) (G : zG) (m : Nat → Nat) (σ : Nat → Nat) (V : Nat → Nat → Nat) (ζ : Nat → Nat) (ns : Nat) (x : Nat → Nat) (len : Nat) (B : Nat → Int32) {N : Nat} (e : Nat) (hO : Ok N σ) (hns : ns ≤ 4) (he : e < nE σ) (hd : va_D (fun _ => True) (wM G m σ V ζ ns x len B)) : Met l yX5_edge wsX5_edge (zRm 6 138) (zPc G [.ref (m 0), .int (nI e), .int (nI 4)] (va_P G.1 vwCl (wM G m σ V ζ ns x len B))) (zQ (zA (wM G m σ V ζ ns x len B)) (some (.int (nI (qrl σ e)))) (va_P G.1 vwCl (wM G m σ V ζ ns x len B))) 0 0 (zA (wM G m σ V ζ ns x len B)) := by
  refine zmkWi (w := (wM G m σ V ζ ns x len B)) hd (cc := cX5_edge) (maxL := 3) (by decide) rfl (Nat.le_of_ble_eq_true rfl) ?_
  intro pr en st mi ar bl me cd ls Q hx hb hml hown hts hG hP hl hD hS hret
  have hown : st.vm.findClass RX5 = some mi.cls := hown
  have hl : lv_has ls 3 [(0, .ref (m 0)), (1, .int (nI e)), (2, .int (nI 4))] := hl
  have hP : va_P G.1 vwCl (wM G m σ V ζ ns x len B) st.heap := hP
  have hD : va_D (zA (wM G m σ V ζ ns x len B)) (wM G m σ V ζ ns x len B) := hD
  have hc := hO.c
  have hs := hO.lS
  have hr := hO.lR
  have hne := hO.lE
  have hve : 0 ≤ nI e ∧ nI e < nI (nE σ) := z_in he (by omega)
  have hvw : nI 0 ≤ nI 4 ∧ nI 4 ≤ nI 6 := by decide
  have hag : σ (4 + e) ≤ 1 := hO.ag (show e < 60 by omega)
  refine lv_aload_n hx hb dX5_edge_0 rfl (lv_at hl 0 rfl) ?_
  refine lv_iload_n hx hb dX5_edge_1 rfl (lv_at hl 1 rfl) ?_
  refine zrdV (As := [.int (nI e)]) ⟨hx, hb, hml, hown, hts⟩ (kX5_isEdge l G m σ V ζ ns x len B (nI e) (hO)) (cwV 1 hts gX5_edge_X5_isEdge rfl rfl rfl (by decide +kernel) ⟨Nat.le_of_ble_eq_true rfl, Nat.le_of_ble_eq_true rfl⟩) hG (va_recv (q0 := 0) (ci := 5) hG.1 hP rfl rfl) (hP) rfl rfl hl.1 dX5_edge_2 (Nat.le_of_ble_eq_true rfl) ⟨Nat.le_of_ble_eq_true rfl, Nat.le_of_ble_eq_true rfl⟩ ?_
  refine lv_if_eq (tgt := 18) hx hb dX5_edge_5 (by decide) (fun h5 => ?_) (fun h5 => ?_)
  · skip
    have h5 : ¬ (0 ≤ (nI e) ∧ (nI e) < nI (nE σ)) := (z_b0).mp h5
    exact absurd hve h5
  · skip
    have h5 : ¬ (¬ (0 ≤ (nI e) ∧ (nI e) < nI (nE σ))) := fun q => h5 ((z_b0).mpr q)
    have h5 : 0 ≤ (nI e) ∧ (nI e) < nI (nE σ) := Decidable.of_not_not h5
    refine lv_iload_n hx hb dX5_edge_8 rfl (lv_at hl 2 rfl) ?_
    refine lv_iconst (v := nI 0) hx hb dX5_edge_9 (by decide) ?_
    refine lv_bipush (v := nI 6) hx hb dX5_edge_10 (by decide) ?_
    refine zrdS (As := [.int (nI 4), .int (nI 0), .int (nI 6)]) ⟨hx, hb, hml, hown, hts⟩ (kX5_in l G  (nI 4) (nI 0) (nI 6)) (va_cwS 3 hts gX5_edge_X5_in rfl rfl rfl (by decide +kernel) ⟨Nat.le_of_ble_eq_true rfl, Nat.le_of_ble_eq_true rfl⟩) hG (trivial) rfl rfl hl.1 dX5_edge_12 (Nat.le_of_ble_eq_true rfl) ⟨Nat.le_of_ble_eq_true rfl, Nat.le_of_ble_eq_true rfl⟩ ?_
    refine lv_if_ne (tgt := 20) hx hb dX5_edge_15 (by decide) (fun h15 => ?_) (fun h15 => ?_)
    · skip
      have h15 : ¬ (¬ ((nI 0) ≤ (nI 4) ∧ (nI 4) ≤ (nI 6))) := fun q => h15 ((z_b0).mpr q)
      have h15 : (nI 0) ≤ (nI 4) ∧ (nI 4) ≤ (nI 6) := Decidable.of_not_not h15
      refine lv_iload_n hx hb dX5_edge_20 rfl (lv_at hl 2 rfl) ?_
      refine lv_tableIn (off := 66) (tgt := 87) hx hb dX5_edge_21 (by decide) (by decide) (by decide) (by decide) ?_
      refine lv_aload_n hx hb dX5_edge_87 rfl (lv_at hl 0 rfl) ?_
      refine lv_iload_n hx hb dX5_edge_88 rfl (lv_at hl 1 rfl) ?_
      refine zrdV (As := [.int (nI e)]) ⟨hx, hb, hml, hown, hts⟩ (kX5_quarrels l G m σ V ζ ns x len B e (hO) (by omega)) (cwV 1 hts gX5_edge_X5_quarrels rfl rfl rfl (by decide +kernel) ⟨Nat.le_of_ble_eq_true rfl, Nat.le_of_ble_eq_true rfl⟩) hG (va_recv (q0 := 0) (ci := 5) hG.1 hP rfl rfl) (hP) rfl rfl hl.1 dX5_edge_89 (Nat.le_of_ble_eq_true rfl) ⟨Nat.le_of_ble_eq_true rfl, Nat.le_of_ble_eq_true rfl⟩ ?_
      have hf89_0 := qrl_le σ (e)
      exact hret _ _ _ _ _ dX5_edge_92 hS (hP) (congrArg nI (rfl))
    · skip
      have h15 : ¬ ((nI 0) ≤ (nI 4) ∧ (nI 4) ≤ (nI 6)) := (z_b0).mp h15
      exact absurd hvw h15
set_option maxHeartbeats 4000000 in
set_option maxRecDepth 100000 in
theorem kX5_edge_5 (l : Launch) (G : zG) (m : Nat → Nat) (σ : Nat → Nat) (V : Nat → Nat → Nat) (ζ : Nat → Nat) (ns : Nat) (x : Nat → Nat) (len : Nat) (B : Nat → Int32) {N : Nat} (e : Nat) (hO : Ok N σ) (hns : ns ≤ 4) (he : e < nE σ) (hd : va_D (fun _ => True) (wM G m σ V ζ ns x len B)) : Met l yX5_edge wsX5_edge (zRm 6 138) (zPc G [.ref (m 0), .int (nI e), .int (nI 5)] (va_P G.1 vwCl (wM G m σ V ζ ns x len B))) (zQ (zA (wM G m σ V ζ ns x len B)) (some (.int (nI (crs σ e)))) (va_P G.1 vwCl (wM G m σ V ζ ns x len B))) 0 0 (zA (wM G m σ V ζ ns x len B)) := by
  refine zmkWi (w := (wM G m σ V ζ ns x len B)) hd (cc := cX5_edge) (maxL := 3) (by decide) rfl (Nat.le_of_ble_eq_true rfl) ?_
  intro pr en st mi ar bl me cd ls Q hx hb hml hown hts hG hP hl hD hS hret
  have hown : st.vm.findClass RX5 = some mi.cls := hown
  have hl : lv_has ls 3 [(0, .ref (m 0)), (1, .int (nI e)), (2, .int (nI 5))] := hl
  have hP : va_P G.1 vwCl (wM G m σ V ζ ns x len B) st.heap := hP
  have hD : va_D (zA (wM G m σ V ζ ns x len B)) (wM G m σ V ζ ns x len B) := hD
  have hc := hO.c
  have hs := hO.lS
  have hr := hO.lR
  have hne := hO.lE
  have hve : 0 ≤ nI e ∧ nI e < nI (nE σ) := z_in he (by omega)
  have hvw : nI 0 ≤ nI 5 ∧ nI 5 ≤ nI 6 := by decide
  have hag : σ (4 + e) ≤ 1 := hO.ag (show e < 60 by omega)
  refine lv_aload_n hx hb dX5_edge_0 rfl (lv_at hl 0 rfl) ?_
  refine lv_iload_n hx hb dX5_edge_1 rfl (lv_at hl 1 rfl) ?_
  refine zrdV (As := [.int (nI e)]) ⟨hx, hb, hml, hown, hts⟩ (kX5_isEdge l G m σ V ζ ns x len B (nI e) (hO)) (cwV 1 hts gX5_edge_X5_isEdge rfl rfl rfl (by decide +kernel) ⟨Nat.le_of_ble_eq_true rfl, Nat.le_of_ble_eq_true rfl⟩) hG (va_recv (q0 := 0) (ci := 5) hG.1 hP rfl rfl) (hP) rfl rfl hl.1 dX5_edge_2 (Nat.le_of_ble_eq_true rfl) ⟨Nat.le_of_ble_eq_true rfl, Nat.le_of_ble_eq_true rfl⟩ ?_
  refine lv_if_eq (tgt := 18) hx hb dX5_edge_5 (by decide) (fun h5 => ?_) (fun h5 => ?_)
  · skip
    have h5 : ¬ (0 ≤ (nI e) ∧ (nI e) < nI (nE σ)) := (z_b0).mp h5
    exact absurd hve h5
  · skip
    have h5 : ¬ (¬ (0 ≤ (nI e) ∧ (nI e) < nI (nE σ))) := fun q => h5 ((z_b0).mpr q)
    have h5 : 0 ≤ (nI e) ∧ (nI e) < nI (nE σ) := Decidable.of_not_not h5
    refine lv_iload_n hx hb dX5_edge_8 rfl (lv_at hl 2 rfl) ?_
    refine lv_iconst (v := nI 0) hx hb dX5_edge_9 (by decide) ?_
    refine lv_bipush (v := nI 6) hx hb dX5_edge_10 (by decide) ?_
    refine zrdS (As := [.int (nI 5), .int (nI 0), .int (nI 6)]) ⟨hx, hb, hml, hown, hts⟩ (kX5_in l G  (nI 5) (nI 0) (nI 6)) (va_cwS 3 hts gX5_edge_X5_in rfl rfl rfl (by decide +kernel) ⟨Nat.le_of_ble_eq_true rfl, Nat.le_of_ble_eq_true rfl⟩) hG (trivial) rfl rfl hl.1 dX5_edge_12 (Nat.le_of_ble_eq_true rfl) ⟨Nat.le_of_ble_eq_true rfl, Nat.le_of_ble_eq_true rfl⟩ ?_
    refine lv_if_ne (tgt := 20) hx hb dX5_edge_15 (by decide) (fun h15 => ?_) (fun h15 => ?_)
    · skip
      have h15 : ¬ (¬ ((nI 0) ≤ (nI 5) ∧ (nI 5) ≤ (nI 6))) := fun q => h15 ((z_b0).mpr q)
      have h15 : (nI 0) ≤ (nI 5) ∧ (nI 5) ≤ (nI 6) := Decidable.of_not_not h15
      refine lv_iload_n hx hb dX5_edge_20 rfl (lv_at hl 2 rfl) ?_
      refine lv_tableIn (off := 72) (tgt := 93) hx hb dX5_edge_21 (by decide) (by decide) (by decide) (by decide) ?_
      refine lv_aload_n hx hb dX5_edge_93 rfl (lv_at hl 0 rfl) ?_
      refine lv_iload_n hx hb dX5_edge_94 rfl (lv_at hl 1 rfl) ?_
      refine zrdV (As := [.int (nI e)]) ⟨hx, hb, hml, hown, hts⟩ (kX5_crossings l G m σ V ζ ns x len B e (hO) (by omega)) (cwV 1 hts gX5_edge_X5_crossings rfl rfl rfl (by decide +kernel) ⟨Nat.le_of_ble_eq_true rfl, Nat.le_of_ble_eq_true rfl⟩) hG (va_recv (q0 := 0) (ci := 5) hG.1 hP rfl rfl) (hP) rfl rfl hl.1 dX5_edge_95 (Nat.le_of_ble_eq_true rfl) ⟨Nat.le_of_ble_eq_true rfl, Nat.le_of_ble_eq_true rfl⟩ ?_
      exact hret _ _ _ _ _ dX5_edge_98 hS (hP) (congrArg nI (rfl))
    · skip
      have h15 : ¬ ((nI 0) ≤ (nI 5) ∧ (nI 5) ≤ (nI 6)) := (z_b0).mp h15
      exact absurd hvw h15
set_option maxHeartbeats 4000000 in
set_option maxRecDepth 100000 in
theorem kX5_edge_6 (l : Launch) (G : zG) (m : Nat → Nat) (σ : Nat → Nat) (V : Nat → Nat → Nat) (ζ : Nat → Nat) (ns : Nat) (x : Nat → Nat) (len : Nat) (B : Nat → Int32) {N : Nat} (e : Nat) (hO : Ok N σ) (hns : ns ≤ 4) (he : e < nE σ) (hd : va_D (fun _ => True) (wM G m σ V ζ ns x len B)) : Met l yX5_edge wsX5_edge (zRm 6 138) (zPc G [.ref (m 0), .int (nI e), .int (nI 6)] (va_P G.1 vwCl (wM G m σ V ζ ns x len B))) (zQ (zA (wM G m σ V ζ ns x len B)) (some (.int (if fitP σ e then nI 1 else nI 0))) (va_P G.1 vwCl (wM G m σ V ζ ns x len B))) 0 0 (zA (wM G m σ V ζ ns x len B)) := by
  refine zmkWi (w := (wM G m σ V ζ ns x len B)) hd (cc := cX5_edge) (maxL := 3) (by decide) rfl (Nat.le_of_ble_eq_true rfl) ?_
  intro pr en st mi ar bl me cd ls Q hx hb hml hown hts hG hP hl hD hS hret
  have hown : st.vm.findClass RX5 = some mi.cls := hown
  have hl : lv_has ls 3 [(0, .ref (m 0)), (1, .int (nI e)), (2, .int (nI 6))] := hl
  have hP : va_P G.1 vwCl (wM G m σ V ζ ns x len B) st.heap := hP
  have hD : va_D (zA (wM G m σ V ζ ns x len B)) (wM G m σ V ζ ns x len B) := hD
  have hc := hO.c
  have hs := hO.lS
  have hr := hO.lR
  have hne := hO.lE
  have hve : 0 ≤ nI e ∧ nI e < nI (nE σ) := z_in he (by omega)
  have hvw : nI 0 ≤ nI 6 ∧ nI 6 ≤ nI 6 := by decide
  have hag : σ (4 + e) ≤ 1 := hO.ag (show e < 60 by omega)
  refine lv_aload_n hx hb dX5_edge_0 rfl (lv_at hl 0 rfl) ?_
  refine lv_iload_n hx hb dX5_edge_1 rfl (lv_at hl 1 rfl) ?_
  refine zrdV (As := [.int (nI e)]) ⟨hx, hb, hml, hown, hts⟩ (kX5_isEdge l G m σ V ζ ns x len B (nI e) (hO)) (cwV 1 hts gX5_edge_X5_isEdge rfl rfl rfl (by decide +kernel) ⟨Nat.le_of_ble_eq_true rfl, Nat.le_of_ble_eq_true rfl⟩) hG (va_recv (q0 := 0) (ci := 5) hG.1 hP rfl rfl) (hP) rfl rfl hl.1 dX5_edge_2 (Nat.le_of_ble_eq_true rfl) ⟨Nat.le_of_ble_eq_true rfl, Nat.le_of_ble_eq_true rfl⟩ ?_
  refine lv_if_eq (tgt := 18) hx hb dX5_edge_5 (by decide) (fun h5 => ?_) (fun h5 => ?_)
  · skip
    have h5 : ¬ (0 ≤ (nI e) ∧ (nI e) < nI (nE σ)) := (z_b0).mp h5
    exact absurd hve h5
  · skip
    have h5 : ¬ (¬ (0 ≤ (nI e) ∧ (nI e) < nI (nE σ))) := fun q => h5 ((z_b0).mpr q)
    have h5 : 0 ≤ (nI e) ∧ (nI e) < nI (nE σ) := Decidable.of_not_not h5
    refine lv_iload_n hx hb dX5_edge_8 rfl (lv_at hl 2 rfl) ?_
    refine lv_iconst (v := nI 0) hx hb dX5_edge_9 (by decide) ?_
    refine lv_bipush (v := nI 6) hx hb dX5_edge_10 (by decide) ?_
    refine zrdS (As := [.int (nI 6), .int (nI 0), .int (nI 6)]) ⟨hx, hb, hml, hown, hts⟩ (kX5_in l G  (nI 6) (nI 0) (nI 6)) (va_cwS 3 hts gX5_edge_X5_in rfl rfl rfl (by decide +kernel) ⟨Nat.le_of_ble_eq_true rfl, Nat.le_of_ble_eq_true rfl⟩) hG (trivial) rfl rfl hl.1 dX5_edge_12 (Nat.le_of_ble_eq_true rfl) ⟨Nat.le_of_ble_eq_true rfl, Nat.le_of_ble_eq_true rfl⟩ ?_
    refine lv_if_ne (tgt := 20) hx hb dX5_edge_15 (by decide) (fun h15 => ?_) (fun h15 => ?_)
    · skip
      have h15 : ¬ (¬ ((nI 0) ≤ (nI 6) ∧ (nI 6) ≤ (nI 6))) := fun q => h15 ((z_b0).mpr q)
      have h15 : (nI 0) ≤ (nI 6) ∧ (nI 6) ≤ (nI 6) := Decidable.of_not_not h15
      refine lv_iload_n hx hb dX5_edge_20 rfl (lv_at hl 2 rfl) ?_
      refine lv_tableOut (tgt := 99) hx hb dX5_edge_21 (Or.inr (by decide)) (by decide) ?_
      refine lv_aload_n hx hb dX5_edge_99 rfl (lv_at hl 0 rfl) ?_
      refine lv_iload_n hx hb dX5_edge_100 rfl (lv_at hl 1 rfl) ?_
      refine zrdV (As := [.int (nI e)]) ⟨hx, hb, hml, hown, hts⟩ (kX5_fits l G m σ V ζ ns x len B e (hO) (by omega)) (cwV 1 hts gX5_edge_X5_fits rfl rfl rfl (by decide +kernel) ⟨Nat.le_of_ble_eq_true rfl, Nat.le_of_ble_eq_true rfl⟩) hG (va_recv (q0 := 0) (ci := 5) hG.1 hP rfl rfl) (hP) rfl rfl hl.1 dX5_edge_101 (Nat.le_of_ble_eq_true rfl) ⟨Nat.le_of_ble_eq_true rfl, Nat.le_of_ble_eq_true rfl⟩ ?_
      refine lv_if_eq (tgt := 111) hx hb dX5_edge_104 (by decide) (fun h104 => ?_) (fun h104 => ?_)
      · skip
        have h104 : ¬ (fitP σ e) := (z_b0).mp h104
        refine lv_iconst (v := nI 0) hx hb dX5_edge_111 (by decide) ?_
        exact hret _ _ _ _ _ dX5_edge_112 hS (hP) (by rw [if_neg h104])
      · skip
        have h104 : ¬ (¬ (fitP σ e)) := fun q => h104 ((z_b0).mpr q)
        have h104 : fitP σ e := Decidable.of_not_not h104
        refine lv_iconst (v := nI 1) hx hb dX5_edge_107 (by decide) ?_
        refine lv_goto (tgt := 112) hx hb dX5_edge_108 (by decide) ?_
        exact hret _ _ _ _ _ dX5_edge_112 hS (hP) (by rw [if_pos h104])
    · skip
      have h15 : ¬ ((nI 0) ≤ (nI 6) ∧ (nI 6) ≤ (nI 6)) := (z_b0).mp h15
      exact absurd hvw h15
set_option maxHeartbeats 4000000 in
set_option maxRecDepth 100000 in
theorem kX5_edgeAt_inv (l : Launch) (G : zG) (m : Nat → Nat) (σ : Nat → Nat) (V : Nat → Nat → Nat) (ζ : Nat → Nat) (ns : Nat) (x : Nat → Nat) (len : Nat) (B : Nat → Int32) {N : Nat} (x1 : Int32) (x2 : Int32) (hO : Ok N σ) (hns : ns ≤ 4) (hv : ¬ ((0 ≤ x1 ∧ x1 < nI (nS σ)) ∧ (nI 0 ≤ x2 ∧ x2 ≤ nI 3))) (hd : va_D (fun _ => True) (wM G m σ V ζ ns x len B)) : Met l yX5_edgeAt wsX5_edgeAt (zRm 2 45) (zPc G [.ref (m 0), .int x1, .int x2] (va_P G.1 vwCl (wM G m σ V ζ ns x len B))) (zQ (zA (wM G m σ V ζ ns x len B)) (some (.int ((-1)))) (va_P G.1 vwCl (wM G m σ V ζ ns x len B))) 0 0 (zA (wM G m σ V ζ ns x len B)) := by
  refine zmkWi (w := (wM G m σ V ζ ns x len B)) hd (cc := cX5_edgeAt) (maxL := 3) (by decide) rfl (Nat.le_of_ble_eq_true rfl) ?_
  intro pr en st mi ar bl me cd ls Q hx hb hml hown hts hG hP hl hD hS hret
  have hown : st.vm.findClass RX5 = some mi.cls := hown
  have hl : lv_has ls 3 [(0, .ref (m 0)), (1, .int x1), (2, .int x2)] := hl
  have hP : va_P G.1 vwCl (wM G m σ V ζ ns x len B) st.heap := hP
  have hD : va_D (zA (wM G m σ V ζ ns x len B)) (wM G m σ V ζ ns x len B) := hD
  have hc := hO.c
  have hs := hO.lS
  have hr := hO.lR
  have hne := hO.lE
  refine lv_aload_n hx hb dX5_edgeAt_0 rfl (lv_at hl 0 rfl) ?_
  refine lv_iload_n hx hb dX5_edgeAt_1 rfl (lv_at hl 1 rfl) ?_
  refine zrdV (As := [.int x1]) ⟨hx, hb, hml, hown, hts⟩ (kX5_isSheet l G m σ V ζ ns x len B x1) (cwV 1 hts gX5_edgeAt_X5_isSheet rfl rfl rfl (by decide +kernel) ⟨Nat.le_of_ble_eq_true rfl, Nat.le_of_ble_eq_true rfl⟩) hG (va_recv (q0 := 0) (ci := 5) hG.1 hP rfl rfl) (hP) rfl rfl hl.1 dX5_edgeAt_2 (Nat.le_of_ble_eq_true rfl) ⟨Nat.le_of_ble_eq_true rfl, Nat.le_of_ble_eq_true rfl⟩ ?_
  refine lv_if_eq (tgt := 26) hx hb dX5_edgeAt_5 (by decide) (fun h5 => ?_) (fun h5 => ?_)
  · skip
    have h5 : ¬ (0 ≤ x1 ∧ x1 < nI (nS σ)) := (z_b0).mp h5
    refine lv_iconst (v := (-1)) hx hb dX5_edgeAt_26 (by decide) ?_
    exact hret _ _ _ _ _ dX5_edgeAt_27 hS (hP) (rfl)
  · skip
    have h5 : ¬ (¬ (0 ≤ x1 ∧ x1 < nI (nS σ))) := fun q => h5 ((z_b0).mpr q)
    have h5 : 0 ≤ x1 ∧ x1 < nI (nS σ) := Decidable.of_not_not h5
    refine lv_iload_n hx hb dX5_edgeAt_8 rfl (lv_at hl 2 rfl) ?_
    refine lv_iconst (v := nI 0) hx hb dX5_edgeAt_9 (by decide) ?_
    refine lv_iconst (v := nI 3) hx hb dX5_edgeAt_10 (by decide) ?_
    refine zrdS (As := [.int x2, .int (nI 0), .int (nI 3)]) ⟨hx, hb, hml, hown, hts⟩ (kX5_in l G  x2 (nI 0) (nI 3)) (va_cwS 3 hts gX5_edgeAt_X5_in rfl rfl rfl (by decide +kernel) ⟨Nat.le_of_ble_eq_true rfl, Nat.le_of_ble_eq_true rfl⟩) hG (trivial) rfl rfl hl.1 dX5_edgeAt_11 (Nat.le_of_ble_eq_true rfl) ⟨Nat.le_of_ble_eq_true rfl, Nat.le_of_ble_eq_true rfl⟩ ?_
    refine lv_if_eq (tgt := 26) hx hb dX5_edgeAt_14 (by decide) (fun h14 => ?_) (fun h14 => ?_)
    · skip
      have h14 : ¬ ((nI 0) ≤ x2 ∧ x2 ≤ (nI 3)) := (z_b0).mp h14
      refine lv_iconst (v := (-1)) hx hb dX5_edgeAt_26 (by decide) ?_
      exact hret _ _ _ _ _ dX5_edgeAt_27 hS (hP) (rfl)
    · skip
      have h14 : ¬ (¬ ((nI 0) ≤ x2 ∧ x2 ≤ (nI 3))) := fun q => h14 ((z_b0).mpr q)
      have h14 : (nI 0) ≤ x2 ∧ x2 ≤ (nI 3) := Decidable.of_not_not h14
      exact absurd ⟨h5, h14⟩ hv
set_option maxHeartbeats 4000000 in
set_option maxRecDepth 100000 in
theorem kX5_edgeAt_ok (l : Launch) (G : zG) (m : Nat → Nat) (σ : Nat → Nat) (V : Nat → Nat → Nat) (ζ : Nat → Nat) (ns : Nat) (x : Nat → Nat) (len : Nat) (B : Nat → Int32) {N : Nat} (k : Nat) (d : Nat) (hO : Ok N σ) (hns : ns ≤ 4) (hk : k < nS σ) (hd4 : d < 4) (hd : va_D (fun _ => True) (wM G m σ V ζ ns x len B)) : Met l yX5_edgeAt wsX5_edgeAt (zRm 2 45) (zPc G [.ref (m 0), .int (nI k), .int (nI d)] (va_P G.1 vwCl (wM G m σ V ζ ns x len B))) (zQ (zA (wM G m σ V ζ ns x len B)) (some (.int (zc 60 (eO σ k d)))) (va_P G.1 vwCl (wM G m σ V ζ ns x len B))) 0 0 (zA (wM G m σ V ζ ns x len B)) := by
  refine zmkWi (w := (wM G m σ V ζ ns x len B)) hd (cc := cX5_edgeAt) (maxL := 3) (by decide) rfl (Nat.le_of_ble_eq_true rfl) ?_
  intro pr en st mi ar bl me cd ls Q hx hb hml hown hts hG hP hl hD hS hret
  have hown : st.vm.findClass RX5 = some mi.cls := hown
  have hl : lv_has ls 3 [(0, .ref (m 0)), (1, .int (nI k)), (2, .int (nI d))] := hl
  have hP : va_P G.1 vwCl (wM G m σ V ζ ns x len B) st.heap := hP
  have hD : va_D (zA (wM G m σ V ζ ns x len B)) (wM G m σ V ζ ns x len B) := hD
  have hc := hO.c
  have hs := hO.lS
  have hr := hO.lR
  have hne := hO.lE
  have hvs : 0 ≤ nI k ∧ nI k < nI (nS σ) := z_in hk (by omega)
  have hvd : nI 0 ≤ nI d ∧ nI d ≤ nI 3 := z_lem (by omega) (by omega)
  refine lv_aload_n hx hb dX5_edgeAt_0 rfl (lv_at hl 0 rfl) ?_
  refine lv_iload_n hx hb dX5_edgeAt_1 rfl (lv_at hl 1 rfl) ?_
  refine zrdV (As := [.int (nI k)]) ⟨hx, hb, hml, hown, hts⟩ (kX5_isSheet l G m σ V ζ ns x len B (nI k)) (cwV 1 hts gX5_edgeAt_X5_isSheet rfl rfl rfl (by decide +kernel) ⟨Nat.le_of_ble_eq_true rfl, Nat.le_of_ble_eq_true rfl⟩) hG (va_recv (q0 := 0) (ci := 5) hG.1 hP rfl rfl) (hP) rfl rfl hl.1 dX5_edgeAt_2 (Nat.le_of_ble_eq_true rfl) ⟨Nat.le_of_ble_eq_true rfl, Nat.le_of_ble_eq_true rfl⟩ ?_
  refine lv_if_eq (tgt := 26) hx hb dX5_edgeAt_5 (by decide) (fun h5 => ?_) (fun h5 => ?_)
  · skip
    have h5 : ¬ (0 ≤ (nI k) ∧ (nI k) < nI (nS σ)) := (z_b0).mp h5
    exact absurd hvs h5
  · skip
    have h5 : ¬ (¬ (0 ≤ (nI k) ∧ (nI k) < nI (nS σ))) := fun q => h5 ((z_b0).mpr q)
    have h5 : 0 ≤ (nI k) ∧ (nI k) < nI (nS σ) := Decidable.of_not_not h5
    refine lv_iload_n hx hb dX5_edgeAt_8 rfl (lv_at hl 2 rfl) ?_
    refine lv_iconst (v := nI 0) hx hb dX5_edgeAt_9 (by decide) ?_
    refine lv_iconst (v := nI 3) hx hb dX5_edgeAt_10 (by decide) ?_
    refine zrdS (As := [.int (nI d), .int (nI 0), .int (nI 3)]) ⟨hx, hb, hml, hown, hts⟩ (kX5_in l G  (nI d) (nI 0) (nI 3)) (va_cwS 3 hts gX5_edgeAt_X5_in rfl rfl rfl (by decide +kernel) ⟨Nat.le_of_ble_eq_true rfl, Nat.le_of_ble_eq_true rfl⟩) hG (trivial) rfl rfl hl.1 dX5_edgeAt_11 (Nat.le_of_ble_eq_true rfl) ⟨Nat.le_of_ble_eq_true rfl, Nat.le_of_ble_eq_true rfl⟩ ?_
    refine lv_if_eq (tgt := 26) hx hb dX5_edgeAt_14 (by decide) (fun h14 => ?_) (fun h14 => ?_)
    · skip
      have h14 : ¬ ((nI 0) ≤ (nI d) ∧ (nI d) ≤ (nI 3)) := (z_b0).mp h14
      exact absurd hvd h14
    · skip
      have h14 : ¬ (¬ ((nI 0) ≤ (nI d) ∧ (nI d) ≤ (nI 3))) := fun q => h14 ((z_b0).mpr q)
      have h14 : (nI 0) ≤ (nI d) ∧ (nI d) ≤ (nI 3) := Decidable.of_not_not h14
      refine lv_aload_n hx hb dX5_edgeAt_17 rfl (lv_at hl 0 rfl) ?_
      refine lv_iload_n hx hb dX5_edgeAt_18 rfl (lv_at hl 1 rfl) ?_
      refine lv_iload_n hx hb dX5_edgeAt_19 rfl (lv_at hl 2 rfl) ?_
      refine zrdV (As := [.int (nI k), .int (nI d)]) ⟨hx, hb, hml, hown, hts⟩ (kX5_edgeOf l G m σ V ζ ns x len B k d (hO) (by omega) (by omega)) (cwV 2 hts gX5_edgeAt_X5_edgeOf rfl rfl rfl (by decide +kernel) ⟨Nat.le_of_ble_eq_true rfl, Nat.le_of_ble_eq_true rfl⟩) hG (va_recv (q0 := 0) (ci := 5) hG.1 hP rfl rfl) (hP) rfl rfl hl.1 dX5_edgeAt_20 (Nat.le_of_ble_eq_true rfl) ⟨Nat.le_of_ble_eq_true rfl, Nat.le_of_ble_eq_true rfl⟩ ?_
      have hf20_0 := hO.lO2 (show k < nS σ by omega) (show d < 4 by omega)
      refine lv_goto (tgt := 27) hx hb dX5_edgeAt_23 (by decide) ?_
      exact hret _ _ _ _ _ dX5_edgeAt_27 hS (hP) (rfl)
set_option maxHeartbeats 4000000 in
set_option maxRecDepth 100000 in
theorem kX5_quarrelAt_0 (l : Launch) (G : zG) (m : Nat → Nat) (σ : Nat → Nat) (V : Nat → Nat → Nat) (ζ : Nat → Nat) (ns : Nat) (x : Nat → Nat) (len : Nat) (B : Nat → Int32) (e : Nat) (p : Nat)  : Met l yX5_quarrelAt wsX5_quarrelAt (zRm 5 115) (zPc G [.ref (m 0), .int (nI e), .int (nI p), .int (nI 0)] (va_P G.1 vwCl (wM G m σ V ζ ns x len B))) (zS (.int (nI (p)))) 0 0 (fun _ => False) := by
  refine zmkI (cc := cX5_quarrelAt) (maxL := 5) (by decide) rfl (Nat.le_of_ble_eq_true rfl) ?_
  intro pr en st mi ar bl me cd ls Q hx hb hml hown hts hG hP hl hret
  have hown : st.vm.findClass RX5 = some mi.cls := hown
  have hl : lv_has ls 5 [(0, .ref (m 0)), (1, .int (nI e)), (2, .int (nI p)), (3, .int (nI 0))] := hl
  have hP : va_P G.1 vwCl (wM G m σ V ζ ns x len B) st.heap := hP
  refine lv_iload_n hx hb dX5_quarrelAt_0 rfl (lv_at hl 3 rfl) ?_
  refine lv_if_ne (tgt := 8) hx hb dX5_quarrelAt_1 (by decide) (fun h1 => ?_) (fun h1 => ?_)
  · skip
    have h1 : ¬ (0 = 0) := fun q => h1 ((z_eq0 (by omega)).mpr q)
    have h1 : 0 < 0 := Nat.pos_of_ne_zero h1
    exfalso; omega
  · skip
    have h1 : 0 = 0 := (z_eq0 (by omega)).mp h1
    refine lv_iload_n hx hb dX5_quarrelAt_4 rfl (lv_at hl 2 rfl) ?_
    refine lv_goto (tgt := 42) hx hb dX5_quarrelAt_5 (by decide) ?_
    refine lv_istore (lv' := [(4, .int (nI p)), (0, .ref (m 0)), (1, .int (nI e)), (2, .int (nI p)), (3, .int (nI 0))]) hx hb dX5_quarrelAt_42 hl (by decide) rfl (fun ls hl => ?_)
    refine lv_iload_n hx hb dX5_quarrelAt_44 rfl (lv_at hl 4 rfl) ?_
    refine lv_iconst (v := nI 1) hx hb dX5_quarrelAt_45 (by decide) ?_
    refine lv_icmp_le (tgt := 61) hx hb dX5_quarrelAt_46 (by decide) (fun h46 => ?_) (fun h46 => ?_)
    · skip
      have h46 : 0 ≤ 1 := (nI_leI (by omega) (by omega)).mp h46
      refine lv_iload hx hb dX5_quarrelAt_61 (lv_at hl 0 rfl) ?_
      exact hret _ _ _ dX5_quarrelAt_63 (congrArg nI (rfl))
    · skip
      have h46 : ¬ (0 ≤ 1) := fun q => h46 ((nI_leI (by omega) (by omega)).mpr q)
      exfalso; omega
set_option maxHeartbeats 4000000 in
set_option maxRecDepth 100000 in
theorem kX5_quarrelAt_1 (l : Launch) (G : zG) (m : Nat → Nat) (σ : Nat → Nat) (V : Nat → Nat → Nat) (ζ : Nat → Nat) (ns : Nat) (x : Nat → Nat) (len : Nat) (B : Nat → Int32) {N : Nat} (e : Nat) (p : Nat) (hO : Ok N σ) (he : e < nE σ) (hp : p < 10) : Met l yX5_quarrelAt wsX5_quarrelAt (zRm 5 115) (zPc G [.ref (m 0), .int (nI e), .int (nI p), .int (nI 1)] (va_P G.1 vwCl (wM G m σ V ζ ns x len B))) (zS (.int (nI (rsn σ e p)))) 0 0 (fun _ => False) := by
  refine zmkI (cc := cX5_quarrelAt) (maxL := 5) (by decide) rfl (Nat.le_of_ble_eq_true rfl) ?_
  intro pr en st mi ar bl me cd ls Q hx hb hml hown hts hG hP hl hret
  have hown : st.vm.findClass RX5 = some mi.cls := hown
  have hl : lv_has ls 5 [(0, .ref (m 0)), (1, .int (nI e)), (2, .int (nI p)), (3, .int (nI 1))] := hl
  have hP : va_P G.1 vwCl (wM G m σ V ζ ns x len B) st.heap := hP
  have hc := hO.c
  have hs := hO.lS
  have hr := hO.lR
  have hne := hO.lE
  refine lv_iload_n hx hb dX5_quarrelAt_0 rfl (lv_at hl 3 rfl) ?_
  refine lv_if_ne (tgt := 8) hx hb dX5_quarrelAt_1 (by decide) (fun h1 => ?_) (fun h1 => ?_)
  · skip
    have h1 : ¬ (1 = 0) := fun q => h1 ((z_eq0 (by omega)).mpr q)
    have h1 : 0 < 1 := Nat.pos_of_ne_zero h1
    refine lv_iload_n hx hb dX5_quarrelAt_8 rfl (lv_at hl 3 rfl) ?_
    refine lv_iconst (v := nI 1) hx hb dX5_quarrelAt_9 (by decide) ?_
    refine lv_icmp_ne (tgt := 22) hx hb dX5_quarrelAt_10 (by decide) (fun h10 => ?_) (fun h10 => ?_)
    · skip
      have h10 : ¬ (1 = 1) := fun q => h10 ((nI_eq (by omega) (by omega)).mpr q)
      exfalso; omega
    · skip
      have h10 : 1 = 1 := (nI_eq (by omega) (by omega)).mp h10
      refine lv_aload_n hx hb dX5_quarrelAt_13 rfl (lv_at hl 0 rfl) ?_
      refine lv_iload_n hx hb dX5_quarrelAt_14 rfl (lv_at hl 1 rfl) ?_
      refine lv_iload_n hx hb dX5_quarrelAt_15 rfl (lv_at hl 2 rfl) ?_
      refine zrdV (As := [.int (nI e), .int (nI p)]) ⟨hx, hb, hml, hown, hts⟩ (kX5_reasonAt l G m σ V ζ ns x len B e p (hO) (by omega) (by omega)) (cwV 2 hts gX5_quarrelAt_X5_reasonAt rfl rfl rfl (by decide +kernel) ⟨Nat.le_of_ble_eq_true rfl, Nat.le_of_ble_eq_true rfl⟩) hG (va_recv (q0 := 0) (ci := 5) hG.1 hP rfl rfl) (hP) rfl rfl hl.1 dX5_quarrelAt_16 (Nat.le_of_ble_eq_true rfl) ⟨Nat.le_of_ble_eq_true rfl, Nat.le_of_ble_eq_true rfl⟩ ?_
      have hf16_0 := rsn_le σ (e) (p)
      refine lv_goto (tgt := 42) hx hb dX5_quarrelAt_19 (by decide) ?_
      refine lv_istore (lv' := [(4, .int (nI (rsn σ e p))), (0, .ref (m 0)), (1, .int (nI e)), (2, .int (nI p)), (3, .int (nI 1))]) hx hb dX5_quarrelAt_42 hl (by decide) rfl (fun ls hl => ?_)
      refine lv_iload_n hx hb dX5_quarrelAt_44 rfl (lv_at hl 4 rfl) ?_
      refine lv_iconst (v := nI 1) hx hb dX5_quarrelAt_45 (by decide) ?_
      refine lv_icmp_le (tgt := 61) hx hb dX5_quarrelAt_46 (by decide) (fun h46 => ?_) (fun h46 => ?_)
      · skip
        have h46 : 1 ≤ 1 := (nI_leI (by omega) (by omega)).mp h46
        refine lv_iload hx hb dX5_quarrelAt_61 (lv_at hl 0 rfl) ?_
        exact hret _ _ _ dX5_quarrelAt_63 (congrArg nI (rfl))
      · skip
        have h46 : ¬ (1 ≤ 1) := fun q => h46 ((nI_leI (by omega) (by omega)).mpr q)
        exfalso; omega
  · skip
    have h1 : 1 = 0 := (z_eq0 (by omega)).mp h1
    exfalso; omega
set_option maxHeartbeats 4000000 in
set_option maxRecDepth 100000 in
theorem kX5_quarrelAt_2 (l : Launch) (G : zG) (m : Nat → Nat) (σ : Nat → Nat) (V : Nat → Nat → Nat) (ζ : Nat → Nat) (ns : Nat) (x : Nat → Nat) (len : Nat) (B : Nat → Int32) {N : Nat} (e : Nat) (p : Nat) (hO : Ok N σ) (he : e < nE σ) (hp : p < 10) : Met l yX5_quarrelAt wsX5_quarrelAt (zRm 5 115) (zPc G [.ref (m 0), .int (nI e), .int (nI p), .int (nI 2)] (va_P G.1 vwCl (wM G m σ V ζ ns x len B))) (zS (.int (zc 10 (mns σ (fS σ e) (fD σ e) p)))) 0 0 (fun _ => False) := by
  refine zmkI (cc := cX5_quarrelAt) (maxL := 5) (by decide) rfl (Nat.le_of_ble_eq_true rfl) ?_
  intro pr en st mi ar bl me cd ls Q hx hb hml hown hts hG hP hl hret
  have hown : st.vm.findClass RX5 = some mi.cls := hown
  have hl : lv_has ls 5 [(0, .ref (m 0)), (1, .int (nI e)), (2, .int (nI p)), (3, .int (nI 2))] := hl
  have hP : va_P G.1 vwCl (wM G m σ V ζ ns x len B) st.heap := hP
  have hc := hO.c
  have hs := hO.lS
  have hr := hO.lR
  have hne := hO.lE
  refine lv_iload_n hx hb dX5_quarrelAt_0 rfl (lv_at hl 3 rfl) ?_
  refine lv_if_ne (tgt := 8) hx hb dX5_quarrelAt_1 (by decide) (fun h1 => ?_) (fun h1 => ?_)
  · skip
    have h1 : ¬ (2 = 0) := fun q => h1 ((z_eq0 (by omega)).mpr q)
    have h1 : 0 < 2 := Nat.pos_of_ne_zero h1
    refine lv_iload_n hx hb dX5_quarrelAt_8 rfl (lv_at hl 3 rfl) ?_
    refine lv_iconst (v := nI 1) hx hb dX5_quarrelAt_9 (by decide) ?_
    refine lv_icmp_ne (tgt := 22) hx hb dX5_quarrelAt_10 (by decide) (fun h10 => ?_) (fun h10 => ?_)
    · skip
      have h10 : ¬ (2 = 1) := fun q => h10 ((nI_eq (by omega) (by omega)).mpr q)
      refine lv_iload_n hx hb dX5_quarrelAt_22 rfl (lv_at hl 3 rfl) ?_
      refine lv_iconst (v := nI 2) hx hb dX5_quarrelAt_23 (by decide) ?_
      refine lv_icmp_ne (tgt := 36) hx hb dX5_quarrelAt_24 (by decide) (fun h24 => ?_) (fun h24 => ?_)
      · skip
        have h24 : ¬ (2 = 2) := fun q => h24 ((nI_eq (by omega) (by omega)).mpr q)
        exfalso; omega
      · skip
        have h24 : 2 = 2 := (nI_eq (by omega) (by omega)).mp h24
        refine lv_aload_n hx hb dX5_quarrelAt_27 rfl (lv_at hl 0 rfl) ?_
        refine lv_iload_n hx hb dX5_quarrelAt_28 rfl (lv_at hl 1 rfl) ?_
        refine lv_iload_n hx hb dX5_quarrelAt_29 rfl (lv_at hl 2 rfl) ?_
        refine zrdV (As := [.int (nI e), .int (nI p)]) ⟨hx, hb, hml, hown, hts⟩ (kX5_firstMeans l G m σ V ζ ns x len B e p (hO) (by omega) (by omega)) (cwV 2 hts gX5_quarrelAt_X5_firstMeans rfl rfl rfl (by decide +kernel) ⟨Nat.le_of_ble_eq_true rfl, Nat.le_of_ble_eq_true rfl⟩) hG (va_recv (q0 := 0) (ci := 5) hG.1 hP rfl rfl) (hP) rfl rfl hl.1 dX5_quarrelAt_30 (Nat.le_of_ble_eq_true rfl) ⟨Nat.le_of_ble_eq_true rfl, Nat.le_of_ble_eq_true rfl⟩ ?_
        have hf30_0 := hO.mn (show fS σ (e) < 36 by have := hO.lF (show e < nE σ by omega); omega) (fD_lt σ (e)) (show p < 10 by omega)
        refine lv_goto (tgt := 42) hx hb dX5_quarrelAt_33 (by decide) ?_
        refine lv_istore (lv' := [(4, .int (nI (mns σ (fS σ e) (fD σ e) p))), (0, .ref (m 0)), (1, .int (nI e)), (2, .int (nI p)), (3, .int (nI 2))]) hx hb dX5_quarrelAt_42 hl (by decide) rfl (fun ls hl => ?_)
        refine lv_iload_n hx hb dX5_quarrelAt_44 rfl (lv_at hl 4 rfl) ?_
        refine lv_iconst (v := nI 1) hx hb dX5_quarrelAt_45 (by decide) ?_
        refine lv_icmp_le (tgt := 61) hx hb dX5_quarrelAt_46 (by decide) (fun h46 => ?_) (fun h46 => ?_)
        · skip
          have h46 : 2 ≤ 1 := (nI_leI (by omega) (by omega)).mp h46
          exfalso; omega
        · skip
          have h46 : ¬ (2 ≤ 1) := fun q => h46 ((nI_leI (by omega) (by omega)).mpr q)
          refine lv_iload hx hb dX5_quarrelAt_49 (lv_at hl 0 rfl) ?_
          refine lv_bipush (v := nI 10) hx hb dX5_quarrelAt_51 (by decide) ?_
          refine lv_icmp_ne (tgt := 61) hx hb dX5_quarrelAt_53 (by decide) (fun h53 => ?_) (fun h53 => ?_)
          · skip
            have h53 : ¬ ((mns σ (fS σ e) (fD σ e) p) = 10) := fun q => h53 ((nI_eq (by omega) (by omega)).mpr q)
            refine lv_iload hx hb dX5_quarrelAt_61 (lv_at hl 0 rfl) ?_
            exact hret _ _ _ dX5_quarrelAt_63 (by rw [zc_n h53])
          · skip
            have h53 : (mns σ (fS σ e) (fD σ e) p) = 10 := (nI_eq (by omega) (by omega)).mp h53
            refine lv_bipush (v := (-4)) hx hb dX5_quarrelAt_56 (by decide) ?_
            refine lv_goto (tgt := 63) hx hb dX5_quarrelAt_58 (by decide) ?_
            exact hret _ _ _ dX5_quarrelAt_63 (by rw [h53, zc_b])
    · skip
      have h10 : 2 = 1 := (nI_eq (by omega) (by omega)).mp h10
      exfalso; omega
  · skip
    have h1 : 2 = 0 := (z_eq0 (by omega)).mp h1
    exfalso; omega
set_option maxHeartbeats 4000000 in
set_option maxRecDepth 100000 in
theorem kX5_quarrelAt_3 (l : Launch) (G : zG) (m : Nat → Nat) (σ : Nat → Nat) (V : Nat → Nat → Nat) (ζ : Nat → Nat) (ns : Nat) (x : Nat → Nat) (len : Nat) (B : Nat → Int32) {N : Nat} (e : Nat) (p : Nat) (hO : Ok N σ) (he : e < nE σ) (hp : p < 10) : Met l yX5_quarrelAt wsX5_quarrelAt (zRm 5 115) (zPc G [.ref (m 0), .int (nI e), .int (nI p), .int (nI 3)] (va_P G.1 vwCl (wM G m σ V ζ ns x len B))) (zS (.int (zc 10 (mns σ (sS σ e) (sD σ e) p)))) 0 0 (fun _ => False) := by
  refine zmkI (cc := cX5_quarrelAt) (maxL := 5) (by decide) rfl (Nat.le_of_ble_eq_true rfl) ?_
  intro pr en st mi ar bl me cd ls Q hx hb hml hown hts hG hP hl hret
  have hown : st.vm.findClass RX5 = some mi.cls := hown
  have hl : lv_has ls 5 [(0, .ref (m 0)), (1, .int (nI e)), (2, .int (nI p)), (3, .int (nI 3))] := hl
  have hP : va_P G.1 vwCl (wM G m σ V ζ ns x len B) st.heap := hP
  have hc := hO.c
  have hs := hO.lS
  have hr := hO.lR
  have hne := hO.lE
  refine lv_iload_n hx hb dX5_quarrelAt_0 rfl (lv_at hl 3 rfl) ?_
  refine lv_if_ne (tgt := 8) hx hb dX5_quarrelAt_1 (by decide) (fun h1 => ?_) (fun h1 => ?_)
  · skip
    have h1 : ¬ (3 = 0) := fun q => h1 ((z_eq0 (by omega)).mpr q)
    have h1 : 0 < 3 := Nat.pos_of_ne_zero h1
    refine lv_iload_n hx hb dX5_quarrelAt_8 rfl (lv_at hl 3 rfl) ?_
    refine lv_iconst (v := nI 1) hx hb dX5_quarrelAt_9 (by decide) ?_
    refine lv_icmp_ne (tgt := 22) hx hb dX5_quarrelAt_10 (by decide) (fun h10 => ?_) (fun h10 => ?_)
    · skip
      have h10 : ¬ (3 = 1) := fun q => h10 ((nI_eq (by omega) (by omega)).mpr q)
      refine lv_iload_n hx hb dX5_quarrelAt_22 rfl (lv_at hl 3 rfl) ?_
      refine lv_iconst (v := nI 2) hx hb dX5_quarrelAt_23 (by decide) ?_
      refine lv_icmp_ne (tgt := 36) hx hb dX5_quarrelAt_24 (by decide) (fun h24 => ?_) (fun h24 => ?_)
      · skip
        have h24 : ¬ (3 = 2) := fun q => h24 ((nI_eq (by omega) (by omega)).mpr q)
        refine lv_aload_n hx hb dX5_quarrelAt_36 rfl (lv_at hl 0 rfl) ?_
        refine lv_iload_n hx hb dX5_quarrelAt_37 rfl (lv_at hl 1 rfl) ?_
        refine lv_iload_n hx hb dX5_quarrelAt_38 rfl (lv_at hl 2 rfl) ?_
        refine zrdV (As := [.int (nI e), .int (nI p)]) ⟨hx, hb, hml, hown, hts⟩ (kX5_secondMeans l G m σ V ζ ns x len B e p (hO) (by omega) (by omega)) (cwV 2 hts gX5_quarrelAt_X5_secondMeans rfl rfl rfl (by decide +kernel) ⟨Nat.le_of_ble_eq_true rfl, Nat.le_of_ble_eq_true rfl⟩) hG (va_recv (q0 := 0) (ci := 5) hG.1 hP rfl rfl) (hP) rfl rfl hl.1 dX5_quarrelAt_39 (Nat.le_of_ble_eq_true rfl) ⟨Nat.le_of_ble_eq_true rfl, Nat.le_of_ble_eq_true rfl⟩ ?_
        have hf39_0 := hO.mn (show sS σ (e) < 36 by have := hO.lF (show e < nE σ by omega); omega) (sD_lt σ (e)) (show p < 10 by omega)
        refine lv_istore (lv' := [(4, .int (nI (mns σ (sS σ e) (sD σ e) p))), (0, .ref (m 0)), (1, .int (nI e)), (2, .int (nI p)), (3, .int (nI 3))]) hx hb dX5_quarrelAt_42 hl (by decide) rfl (fun ls hl => ?_)
        refine lv_iload_n hx hb dX5_quarrelAt_44 rfl (lv_at hl 4 rfl) ?_
        refine lv_iconst (v := nI 1) hx hb dX5_quarrelAt_45 (by decide) ?_
        refine lv_icmp_le (tgt := 61) hx hb dX5_quarrelAt_46 (by decide) (fun h46 => ?_) (fun h46 => ?_)
        · skip
          have h46 : 3 ≤ 1 := (nI_leI (by omega) (by omega)).mp h46
          exfalso; omega
        · skip
          have h46 : ¬ (3 ≤ 1) := fun q => h46 ((nI_leI (by omega) (by omega)).mpr q)
          refine lv_iload hx hb dX5_quarrelAt_49 (lv_at hl 0 rfl) ?_
          refine lv_bipush (v := nI 10) hx hb dX5_quarrelAt_51 (by decide) ?_
          refine lv_icmp_ne (tgt := 61) hx hb dX5_quarrelAt_53 (by decide) (fun h53 => ?_) (fun h53 => ?_)
          · skip
            have h53 : ¬ ((mns σ (sS σ e) (sD σ e) p) = 10) := fun q => h53 ((nI_eq (by omega) (by omega)).mpr q)
            refine lv_iload hx hb dX5_quarrelAt_61 (lv_at hl 0 rfl) ?_
            exact hret _ _ _ dX5_quarrelAt_63 (by rw [zc_n h53])
          · skip
            have h53 : (mns σ (sS σ e) (sD σ e) p) = 10 := (nI_eq (by omega) (by omega)).mp h53
            refine lv_bipush (v := (-4)) hx hb dX5_quarrelAt_56 (by decide) ?_
            refine lv_goto (tgt := 63) hx hb dX5_quarrelAt_58 (by decide) ?_
            exact hret _ _ _ dX5_quarrelAt_63 (by rw [h53, zc_b])
      · skip
        have h24 : 3 = 2 := (nI_eq (by omega) (by omega)).mp h24
        exfalso; omega
    · skip
      have h10 : 3 = 1 := (nI_eq (by omega) (by omega)).mp h10
      exfalso; omega
  · skip
    have h1 : 3 = 0 := (z_eq0 (by omega)).mp h1
    exfalso; omega
set_option maxHeartbeats 4000000 in
set_option maxRecDepth 100000 in
theorem kX5_quarrel_inv (l : Launch) (G : zG) (m : Nat → Nat) (σ : Nat → Nat) (V : Nat → Nat → Nat) (ζ : Nat → Nat) (ns : Nat) (x : Nat → Nat) (len : Nat) (B : Nat → Int32) {N : Nat} (x1 : Int32) (x2 : Int32) (x3 : Int32) (hO : Ok N σ) (hns : ns ≤ 4) (hv : ¬ ((0 ≤ x1 ∧ x1 < nI (nE σ)) ∧ ¬ (x2 < 0) ∧ (nI 0 ≤ x3 ∧ x3 ≤ nI 3))) (hd : va_D (fun _ => True) (wM G m σ V ζ ns x len B)) : Met l yX5_quarrel wsX5_quarrel (zRm 6 139) (zPc G [.ref (m 0), .int x1, .int x2, .int x3] (va_P G.1 vwCl (wM G m σ V ζ ns x len B))) (zQ (zA (wM G m σ V ζ ns x len B)) (some (.int ((-1)))) (va_P G.1 vwCl (wM G m σ V ζ ns x len B))) 0 0 (zA (wM G m σ V ζ ns x len B)) := by
  refine zmkWi (w := (wM G m σ V ζ ns x len B)) hd (cc := cX5_quarrel) (maxL := 6) (by decide) rfl (Nat.le_of_ble_eq_true rfl) ?_
  intro pr en st mi ar bl me cd ls Q hx hb hml hown hts hG hP hl hD hS hret
  have hown : st.vm.findClass RX5 = some mi.cls := hown
  have hl : lv_has ls 6 [(0, .ref (m 0)), (1, .int x1), (2, .int x2), (3, .int x3)] := hl
  have hP : va_P G.1 vwCl (wM G m σ V ζ ns x len B) st.heap := hP
  have hD : va_D (zA (wM G m σ V ζ ns x len B)) (wM G m σ V ζ ns x len B) := hD
  have hc := hO.c
  have hs := hO.lS
  have hr := hO.lR
  have hne := hO.lE
  refine lv_aload_n hx hb dX5_quarrel_0 rfl (lv_at hl 0 rfl) ?_
  refine lv_iload_n hx hb dX5_quarrel_1 rfl (lv_at hl 1 rfl) ?_
  refine zrdV (As := [.int x1]) ⟨hx, hb, hml, hown, hts⟩ (kX5_isEdge l G m σ V ζ ns x len B x1 (hO)) (cwV 1 hts gX5_quarrel_X5_isEdge rfl rfl rfl (by decide +kernel) ⟨Nat.le_of_ble_eq_true rfl, Nat.le_of_ble_eq_true rfl⟩) hG (va_recv (q0 := 0) (ci := 5) hG.1 hP rfl rfl) (hP) rfl rfl hl.1 dX5_quarrel_2 (Nat.le_of_ble_eq_true rfl) ⟨Nat.le_of_ble_eq_true rfl, Nat.le_of_ble_eq_true rfl⟩ ?_
  refine lv_if_eq (tgt := 21) hx hb dX5_quarrel_5 (by decide) (fun h5 => ?_) (fun h5 => ?_)
  · skip
    have h5 : ¬ (0 ≤ x1 ∧ x1 < nI (nE σ)) := (z_b0).mp h5
    refine lv_iconst (v := (-1)) hx hb dX5_quarrel_21 (by decide) ?_
    exact hret _ _ _ _ _ dX5_quarrel_22 hS (hP) (rfl)
  · skip
    have h5 : ¬ (¬ (0 ≤ x1 ∧ x1 < nI (nE σ))) := fun q => h5 ((z_b0).mpr q)
    have h5 : 0 ≤ x1 ∧ x1 < nI (nE σ) := Decidable.of_not_not h5
    refine lv_iload_n hx hb dX5_quarrel_8 rfl (lv_at hl 2 rfl) ?_
    refine lv_if_lt (tgt := 21) hx hb dX5_quarrel_9 (by decide) (fun h9 => ?_) (fun h9 => ?_)
    · skip
      refine lv_iconst (v := (-1)) hx hb dX5_quarrel_21 (by decide) ?_
      exact hret _ _ _ _ _ dX5_quarrel_22 hS (hP) (rfl)
    · skip
      refine lv_iload_n hx hb dX5_quarrel_12 rfl (lv_at hl 3 rfl) ?_
      refine lv_iconst (v := nI 0) hx hb dX5_quarrel_13 (by decide) ?_
      refine lv_iconst (v := nI 3) hx hb dX5_quarrel_14 (by decide) ?_
      refine zrdS (As := [.int x3, .int (nI 0), .int (nI 3)]) ⟨hx, hb, hml, hown, hts⟩ (kX5_in l G  x3 (nI 0) (nI 3)) (va_cwS 3 hts gX5_quarrel_X5_in rfl rfl rfl (by decide +kernel) ⟨Nat.le_of_ble_eq_true rfl, Nat.le_of_ble_eq_true rfl⟩) hG (trivial) rfl rfl hl.1 dX5_quarrel_15 (Nat.le_of_ble_eq_true rfl) ⟨Nat.le_of_ble_eq_true rfl, Nat.le_of_ble_eq_true rfl⟩ ?_
      refine lv_if_ne (tgt := 23) hx hb dX5_quarrel_18 (by decide) (fun h18 => ?_) (fun h18 => ?_)
      · skip
        have h18 : ¬ (¬ ((nI 0) ≤ x3 ∧ x3 ≤ (nI 3))) := fun q => h18 ((z_b0).mpr q)
        have h18 : (nI 0) ≤ x3 ∧ x3 ≤ (nI 3) := Decidable.of_not_not h18
        exact absurd ⟨h5, h9, h18⟩ hv
      · skip
        have h18 : ¬ ((nI 0) ≤ x3 ∧ x3 ≤ (nI 3)) := (z_b0).mp h18
        refine lv_iconst (v := (-1)) hx hb dX5_quarrel_21 (by decide) ?_
        exact hret _ _ _ _ _ dX5_quarrel_22 hS (hP) (rfl)
set_option maxHeartbeats 4000000 in
set_option maxRecDepth 100000 in
theorem kX5_quarrel_none0 (l : Launch) (G : zG) (m : Nat → Nat) (σ : Nat → Nat) (V : Nat → Nat → Nat) (ζ : Nat → Nat) (ns : Nat) (x : Nat → Nat) (len : Nat) (B : Nat → Int32) {N : Nat} (e : Nat) (i : Nat) (hO : Ok N σ) (hns : ns ≤ 4) (he : e < nE σ) (hi31 : i < 2 ^ 31) (hq : pq σ e i = 10) (hd : va_D (fun _ => True) (wM G m σ V ζ ns x len B)) : Met l yX5_quarrel wsX5_quarrel (zRm 6 139) (zPc G [.ref (m 0), .int (nI e), .int (nI i), .int (nI 0)] (va_P G.1 vwCl (wM G m σ V ζ ns x len B))) (zQ (zA (wM G m σ V ζ ns x len B)) (some (.int ((-4)))) (va_P G.1 vwCl (wM G m σ V ζ ns x len B))) 0 0 (zA (wM G m σ V ζ ns x len B)) := by
  refine zmkWi (w := (wM G m σ V ζ ns x len B)) hd (cc := cX5_quarrel) (maxL := 6) (by decide) rfl (Nat.le_of_ble_eq_true rfl) ?_
  intro pr en st mi ar bl me cd ls Q hx hb hml hown hts hG hP hl hD hS hret
  have hown : st.vm.findClass RX5 = some mi.cls := hown
  have hl : lv_has ls 6 [(0, .ref (m 0)), (1, .int (nI e)), (2, .int (nI i)), (3, .int (nI 0))] := hl
  have hP : va_P G.1 vwCl (wM G m σ V ζ ns x len B) st.heap := hP
  have hD : va_D (zA (wM G m σ V ζ ns x len B)) (wM G m σ V ζ ns x len B) := hD
  have hc := hO.c
  have hs := hO.lS
  have hr := hO.lR
  have hne := hO.lE
  have hve : 0 ≤ nI e ∧ nI e < nI (nE σ) := z_in he (by omega)
  have hvw : nI 0 ≤ nI 0 ∧ nI 0 ≤ nI 3 := by decide
  refine lv_aload_n hx hb dX5_quarrel_0 rfl (lv_at hl 0 rfl) ?_
  refine lv_iload_n hx hb dX5_quarrel_1 rfl (lv_at hl 1 rfl) ?_
  refine zrdV (As := [.int (nI e)]) ⟨hx, hb, hml, hown, hts⟩ (kX5_isEdge l G m σ V ζ ns x len B (nI e) (hO)) (cwV 1 hts gX5_quarrel_X5_isEdge rfl rfl rfl (by decide +kernel) ⟨Nat.le_of_ble_eq_true rfl, Nat.le_of_ble_eq_true rfl⟩) hG (va_recv (q0 := 0) (ci := 5) hG.1 hP rfl rfl) (hP) rfl rfl hl.1 dX5_quarrel_2 (Nat.le_of_ble_eq_true rfl) ⟨Nat.le_of_ble_eq_true rfl, Nat.le_of_ble_eq_true rfl⟩ ?_
  refine lv_if_eq (tgt := 21) hx hb dX5_quarrel_5 (by decide) (fun h5 => ?_) (fun h5 => ?_)
  · skip
    have h5 : ¬ (0 ≤ (nI e) ∧ (nI e) < nI (nE σ)) := (z_b0).mp h5
    exact absurd hve h5
  · skip
    have h5 : ¬ (¬ (0 ≤ (nI e) ∧ (nI e) < nI (nE σ))) := fun q => h5 ((z_b0).mpr q)
    have h5 : 0 ≤ (nI e) ∧ (nI e) < nI (nE σ) := Decidable.of_not_not h5
    refine lv_iload_n hx hb dX5_quarrel_8 rfl (lv_at hl 2 rfl) ?_
    refine lv_if_lt (tgt := 21) hx hb dX5_quarrel_9 (by decide) (fun h9 => ?_) (fun h9 => ?_)
    · skip
      have h9 : False := (z_lt0 (by omega)).mp h9
      exfalso; omega
    · skip
      have h9 : ¬ (False) := fun q => h9 ((z_lt0 (by omega)).mpr q)
      refine lv_iload_n hx hb dX5_quarrel_12 rfl (lv_at hl 3 rfl) ?_
      refine lv_iconst (v := nI 0) hx hb dX5_quarrel_13 (by decide) ?_
      refine lv_iconst (v := nI 3) hx hb dX5_quarrel_14 (by decide) ?_
      refine zrdS (As := [.int (nI 0), .int (nI 0), .int (nI 3)]) ⟨hx, hb, hml, hown, hts⟩ (kX5_in l G  (nI 0) (nI 0) (nI 3)) (va_cwS 3 hts gX5_quarrel_X5_in rfl rfl rfl (by decide +kernel) ⟨Nat.le_of_ble_eq_true rfl, Nat.le_of_ble_eq_true rfl⟩) hG (trivial) rfl rfl hl.1 dX5_quarrel_15 (Nat.le_of_ble_eq_true rfl) ⟨Nat.le_of_ble_eq_true rfl, Nat.le_of_ble_eq_true rfl⟩ ?_
      refine lv_if_ne (tgt := 23) hx hb dX5_quarrel_18 (by decide) (fun h18 => ?_) (fun h18 => ?_)
      · skip
        have h18 : ¬ (¬ ((nI 0) ≤ (nI 0) ∧ (nI 0) ≤ (nI 3))) := fun q => h18 ((z_b0).mpr q)
        have h18 : (nI 0) ≤ (nI 0) ∧ (nI 0) ≤ (nI 3) := Decidable.of_not_not h18
        refine lv_iload_n hx hb dX5_quarrel_23 rfl (lv_at hl 2 rfl) ?_
        refine lv_istore (lv' := [(4, .int (nI i)), (0, .ref (m 0)), (1, .int (nI e)), (2, .int (nI i)), (3, .int (nI 0))]) hx hb dX5_quarrel_24 hl (by decide) rfl (fun ls hl => ?_)
        refine lv_iconst (v := nI 0) hx hb dX5_quarrel_26 (by decide) ?_
        refine lv_istore (lv' := [(5, .int (nI 0)), (4, .int (nI i)), (0, .ref (m 0)), (1, .int (nI e)), (2, .int (nI i)), (3, .int (nI 0))]) hx hb dX5_quarrel_27 hl (by decide) rfl (fun ls hl => ?_)
        have loop29 : ∀ (n : Nat) (j : Nat) (b : Nat) (hb2 : b = qb σ e j) (hz : ∀ j2, j2 < j → decide (rsn σ e j2 ≠ 0 ∧ qb σ e j2 = i) = false) (hbi : b ≤ i) (hbj : b ≤ j) (hj : j ≤ 10) (hn : 10 < j + n) (ls : Array Slot) (hl : lv_has ls 6 [(0, .ref (m 0)), (1, .int (nI e)), (2, .int (nI i)), (3, .int (nI 0)), (4, .int (nI (i - b))), (5, .int (nI j))]) (H : Heap) (locs : List Loc) (hP : va_P G.1 vwCl (wM G m σ V ζ ns x len B) H) (hD : va_D (zA (wM G m σ V ζ ns x len B)) (wM G m σ V ζ ns x len B)) (hS : va_S (zA (wM G m σ V ζ ns x len B)) st.heap H locs), W pr l en (zRm 6 139) st mi ar bl me cd H locs 0 0 Q (F0 mi 29 ls []) := by
          intro n
          induction n with
          | zero => intro j b hb2 hz hbi hbj hj hn ls hl H locs hP hD hS; exfalso; omega
          | succ n ih29 =>
            intro j b hb2 hz hbi hbj hj hn ls hl H locs hP hD hS
            refine lv_iload hx hb dX5_quarrel_29 (lv_at hl 5 rfl) ?_
            refine lv_bipush (v := nI 10) hx hb dX5_quarrel_31 (by decide) ?_
            refine lv_icmp_ge (tgt := 69) hx hb dX5_quarrel_33 (by decide) (fun h33 => ?_) (fun h33 => ?_)
            · skip
              have h33 : 10 ≤ j := (nI_leI (by omega) (by omega)).mp h33
              refine lv_bipush (v := (-4)) hx hb dX5_quarrel_69 (by decide) ?_
              exact hret _ _ _ _ _ dX5_quarrel_71 hS (hP) (rfl)
            · skip
              have h33 : ¬ (10 ≤ j) := fun q => h33 ((nI_leI (by omega) (by omega)).mpr q)
              refine lv_aload_n hx hb dX5_quarrel_36 rfl (lv_at hl 0 rfl) ?_
              refine lv_iload_n hx hb dX5_quarrel_37 rfl (lv_at hl 1 rfl) ?_
              refine lv_iload hx hb dX5_quarrel_38 (lv_at hl 5 rfl) ?_
              refine zrdV (As := [.int (nI e), .int (nI j)]) ⟨hx, hb, hml, hown, hts⟩ (kX5_reasonAt l G m σ V ζ ns x len B e j (hO) (by omega) (by omega)) (cwV 2 hts gX5_quarrel_X5_reasonAt rfl rfl rfl (by decide +kernel) ⟨Nat.le_of_ble_eq_true rfl, Nat.le_of_ble_eq_true rfl⟩) hG (va_recv (q0 := 0) (ci := 5) hG.1 hP rfl rfl) (hP) rfl rfl hl.1 dX5_quarrel_40 (Nat.le_of_ble_eq_true rfl) ⟨Nat.le_of_ble_eq_true rfl, Nat.le_of_ble_eq_true rfl⟩ ?_
              have hf40_0 := rsn_le σ (e) (j)
              refine lv_if_le (tgt := 63) hx hb dX5_quarrel_43 (by decide) (fun h43 => ?_) (fun h43 => ?_)
              · skip
                have h43 : (rsn σ e j) = 0 := (z_le0 (by omega)).mp h43
                refine lv_iinc (v := nI (j + 1)) (lv' := [(5, .int (nI (j + 1))), (0, .ref (m 0)), (1, .int (nI e)), (2, .int (nI i)), (3, .int (nI 0)), (4, .int (nI (i - b)))]) hx hb dX5_quarrel_63 hl (k := 5) rfl (zinc1 _) (by decide) rfl (fun ls hl => ?_)
                refine lv_goto (tgt := 29) hx hb dX5_quarrel_66 (by decide) ?_
                exact ih29 (j + 1) b (by show _ = qb σ e j + (if rsn σ e j = 0 then 0 else 1); rw [← hb2, if_pos (by omega)]; rfl) (fun j2 hj2 => by rcases Nat.lt_succ_iff_lt_or_eq.mp hj2 with z | z; exact hz j2 z; (rw [z]; exact decide_eq_false (fun y => by omega))) (by omega) (by omega) (by omega) (by omega) _ (lv_sub hl [1, 2, 3, 4, 5, 0] rfl) _ _ (hP) (hD) hS
              · skip
                have h43 : ¬ ((rsn σ e j) = 0) := fun q => h43 ((z_le0 (by omega)).mpr q)
                have h43 : 0 < (rsn σ e j) := Nat.pos_of_ne_zero h43
                refine lv_iload hx hb dX5_quarrel_46 (lv_at hl 4 rfl) ?_
                refine lv_if_ne (tgt := 60) hx hb dX5_quarrel_48 (by decide) (fun h48 => ?_) (fun h48 => ?_)
                · skip
                  have h48 : ¬ ((i - b) = 0) := fun q => h48 ((z_eq0 (by omega)).mpr q)
                  have h48 : 0 < (i - b) := Nat.pos_of_ne_zero h48
                  refine lv_iinc (v := nI (i - (b + 1))) (lv' := [(4, .int (nI (i - (b + 1)))), (0, .ref (m 0)), (1, .int (nI e)), (2, .int (nI i)), (3, .int (nI 0)), (5, .int (nI j))]) hx hb dX5_quarrel_60 hl (k := 4) rfl (zdec2 (by omega)) (by decide) rfl (fun ls hl => ?_)
                  refine lv_iinc (v := nI (j + 1)) (lv' := [(5, .int (nI (j + 1))), (4, .int (nI (i - (b + 1)))), (0, .ref (m 0)), (1, .int (nI e)), (2, .int (nI i)), (3, .int (nI 0))]) hx hb dX5_quarrel_63 hl (k := 5) rfl (zinc1 _) (by decide) rfl (fun ls hl => ?_)
                  refine lv_goto (tgt := 29) hx hb dX5_quarrel_66 (by decide) ?_
                  exact ih29 (j + 1) (b + 1) (by show _ = qb σ e j + (if rsn σ e j = 0 then 0 else 1); rw [← hb2, if_neg (by omega)]) (fun j2 hj2 => by rcases Nat.lt_succ_iff_lt_or_eq.mp hj2 with z | z; exact hz j2 z; (rw [z]; exact decide_eq_false (fun y => by omega))) (by omega) (by omega) (by omega) (by omega) _ (lv_sub hl [2, 3, 4, 5, 1, 0] rfl) _ _ (hP) (hD) hS
                · skip
                  have h48 : (i - b) = 0 := (z_eq0 (by omega)).mp h48
                  exfalso; have hpq : pq σ e i = j := fst1_at (by omega) hz (decide_eq_true ⟨by omega, by omega⟩); omega
        exact loop29 11 0 0 (rfl) (fun j hj => absurd hj (Nat.not_lt_zero j)) (by omega) (by omega) (by omega) (by omega) _ (lv_sub hl [2, 3, 4, 5, 1, 0] rfl) _ _ (hP) (hD) hS
      · skip
        have h18 : ¬ ((nI 0) ≤ (nI 0) ∧ (nI 0) ≤ (nI 3)) := (z_b0).mp h18
        exact absurd hvw h18
set_option maxHeartbeats 4000000 in
set_option maxRecDepth 100000 in
theorem kX5_quarrel_0 (l : Launch) (G : zG) (m : Nat → Nat) (σ : Nat → Nat) (V : Nat → Nat → Nat) (ζ : Nat → Nat) (ns : Nat) (x : Nat → Nat) (len : Nat) (B : Nat → Int32) {N : Nat} (e : Nat) (i : Nat) (hO : Ok N σ) (hns : ns ≤ 4) (he : e < nE σ) (hi31 : i < 2 ^ 31) (hq : pq σ e i ≠ 10) (hd : va_D (fun _ => True) (wM G m σ V ζ ns x len B)) : Met l yX5_quarrel wsX5_quarrel (zRm 6 139) (zPc G [.ref (m 0), .int (nI e), .int (nI i), .int (nI 0)] (va_P G.1 vwCl (wM G m σ V ζ ns x len B))) (zQ (zA (wM G m σ V ζ ns x len B)) (some (.int (nI (pq σ e i)))) (va_P G.1 vwCl (wM G m σ V ζ ns x len B))) 0 0 (zA (wM G m σ V ζ ns x len B)) := by
  refine zmkWi (w := (wM G m σ V ζ ns x len B)) hd (cc := cX5_quarrel) (maxL := 6) (by decide) rfl (Nat.le_of_ble_eq_true rfl) ?_
  intro pr en st mi ar bl me cd ls Q hx hb hml hown hts hG hP hl hD hS hret
  have hown : st.vm.findClass RX5 = some mi.cls := hown
  have hl : lv_has ls 6 [(0, .ref (m 0)), (1, .int (nI e)), (2, .int (nI i)), (3, .int (nI 0))] := hl
  have hP : va_P G.1 vwCl (wM G m σ V ζ ns x len B) st.heap := hP
  have hD : va_D (zA (wM G m σ V ζ ns x len B)) (wM G m σ V ζ ns x len B) := hD
  have hc := hO.c
  have hs := hO.lS
  have hr := hO.lR
  have hne := hO.lE
  have hve : 0 ≤ nI e ∧ nI e < nI (nE σ) := z_in he (by omega)
  have hvw : nI 0 ≤ nI 0 ∧ nI 0 ≤ nI 3 := by decide
  refine lv_aload_n hx hb dX5_quarrel_0 rfl (lv_at hl 0 rfl) ?_
  refine lv_iload_n hx hb dX5_quarrel_1 rfl (lv_at hl 1 rfl) ?_
  refine zrdV (As := [.int (nI e)]) ⟨hx, hb, hml, hown, hts⟩ (kX5_isEdge l G m σ V ζ ns x len B (nI e) (hO)) (cwV 1 hts gX5_quarrel_X5_isEdge rfl rfl rfl (by decide +kernel) ⟨Nat.le_of_ble_eq_true rfl, Nat.le_of_ble_eq_true rfl⟩) hG (va_recv (q0 := 0) (ci := 5) hG.1 hP rfl rfl) (hP) rfl rfl hl.1 dX5_quarrel_2 (Nat.le_of_ble_eq_true rfl) ⟨Nat.le_of_ble_eq_true rfl, Nat.le_of_ble_eq_true rfl⟩ ?_
  refine lv_if_eq (tgt := 21) hx hb dX5_quarrel_5 (by decide) (fun h5 => ?_) (fun h5 => ?_)
  · skip
    have h5 : ¬ (0 ≤ (nI e) ∧ (nI e) < nI (nE σ)) := (z_b0).mp h5
    exact absurd hve h5
  · skip
    have h5 : ¬ (¬ (0 ≤ (nI e) ∧ (nI e) < nI (nE σ))) := fun q => h5 ((z_b0).mpr q)
    have h5 : 0 ≤ (nI e) ∧ (nI e) < nI (nE σ) := Decidable.of_not_not h5
    refine lv_iload_n hx hb dX5_quarrel_8 rfl (lv_at hl 2 rfl) ?_
    refine lv_if_lt (tgt := 21) hx hb dX5_quarrel_9 (by decide) (fun h9 => ?_) (fun h9 => ?_)
    · skip
      have h9 : False := (z_lt0 (by omega)).mp h9
      exfalso; omega
    · skip
      have h9 : ¬ (False) := fun q => h9 ((z_lt0 (by omega)).mpr q)
      refine lv_iload_n hx hb dX5_quarrel_12 rfl (lv_at hl 3 rfl) ?_
      refine lv_iconst (v := nI 0) hx hb dX5_quarrel_13 (by decide) ?_
      refine lv_iconst (v := nI 3) hx hb dX5_quarrel_14 (by decide) ?_
      refine zrdS (As := [.int (nI 0), .int (nI 0), .int (nI 3)]) ⟨hx, hb, hml, hown, hts⟩ (kX5_in l G  (nI 0) (nI 0) (nI 3)) (va_cwS 3 hts gX5_quarrel_X5_in rfl rfl rfl (by decide +kernel) ⟨Nat.le_of_ble_eq_true rfl, Nat.le_of_ble_eq_true rfl⟩) hG (trivial) rfl rfl hl.1 dX5_quarrel_15 (Nat.le_of_ble_eq_true rfl) ⟨Nat.le_of_ble_eq_true rfl, Nat.le_of_ble_eq_true rfl⟩ ?_
      refine lv_if_ne (tgt := 23) hx hb dX5_quarrel_18 (by decide) (fun h18 => ?_) (fun h18 => ?_)
      · skip
        have h18 : ¬ (¬ ((nI 0) ≤ (nI 0) ∧ (nI 0) ≤ (nI 3))) := fun q => h18 ((z_b0).mpr q)
        have h18 : (nI 0) ≤ (nI 0) ∧ (nI 0) ≤ (nI 3) := Decidable.of_not_not h18
        refine lv_iload_n hx hb dX5_quarrel_23 rfl (lv_at hl 2 rfl) ?_
        refine lv_istore (lv' := [(4, .int (nI i)), (0, .ref (m 0)), (1, .int (nI e)), (2, .int (nI i)), (3, .int (nI 0))]) hx hb dX5_quarrel_24 hl (by decide) rfl (fun ls hl => ?_)
        refine lv_iconst (v := nI 0) hx hb dX5_quarrel_26 (by decide) ?_
        refine lv_istore (lv' := [(5, .int (nI 0)), (4, .int (nI i)), (0, .ref (m 0)), (1, .int (nI e)), (2, .int (nI i)), (3, .int (nI 0))]) hx hb dX5_quarrel_27 hl (by decide) rfl (fun ls hl => ?_)
        have loop29 : ∀ (n : Nat) (j : Nat) (b : Nat) (hb2 : b = qb σ e j) (hz : ∀ j2, j2 < j → decide (rsn σ e j2 ≠ 0 ∧ qb σ e j2 = i) = false) (hbi : b ≤ i) (hbj : b ≤ j) (hj : j ≤ 10) (hn : 10 < j + n) (ls : Array Slot) (hl : lv_has ls 6 [(0, .ref (m 0)), (1, .int (nI e)), (2, .int (nI i)), (3, .int (nI 0)), (4, .int (nI (i - b))), (5, .int (nI j))]) (H : Heap) (locs : List Loc) (hP : va_P G.1 vwCl (wM G m σ V ζ ns x len B) H) (hD : va_D (zA (wM G m σ V ζ ns x len B)) (wM G m σ V ζ ns x len B)) (hS : va_S (zA (wM G m σ V ζ ns x len B)) st.heap H locs), W pr l en (zRm 6 139) st mi ar bl me cd H locs 0 0 Q (F0 mi 29 ls []) := by
          intro n
          induction n with
          | zero => intro j b hb2 hz hbi hbj hj hn ls hl H locs hP hD hS; exfalso; omega
          | succ n ih29 =>
            intro j b hb2 hz hbi hbj hj hn ls hl H locs hP hD hS
            refine lv_iload hx hb dX5_quarrel_29 (lv_at hl 5 rfl) ?_
            refine lv_bipush (v := nI 10) hx hb dX5_quarrel_31 (by decide) ?_
            refine lv_icmp_ge (tgt := 69) hx hb dX5_quarrel_33 (by decide) (fun h33 => ?_) (fun h33 => ?_)
            · skip
              have h33 : 10 ≤ j := (nI_leI (by omega) (by omega)).mp h33
              exfalso; have hpq : pq σ e i = 10 := fst1_no (fun j2 hj2 => hz j2 (by omega)); omega
            · skip
              have h33 : ¬ (10 ≤ j) := fun q => h33 ((nI_leI (by omega) (by omega)).mpr q)
              refine lv_aload_n hx hb dX5_quarrel_36 rfl (lv_at hl 0 rfl) ?_
              refine lv_iload_n hx hb dX5_quarrel_37 rfl (lv_at hl 1 rfl) ?_
              refine lv_iload hx hb dX5_quarrel_38 (lv_at hl 5 rfl) ?_
              refine zrdV (As := [.int (nI e), .int (nI j)]) ⟨hx, hb, hml, hown, hts⟩ (kX5_reasonAt l G m σ V ζ ns x len B e j (hO) (by omega) (by omega)) (cwV 2 hts gX5_quarrel_X5_reasonAt rfl rfl rfl (by decide +kernel) ⟨Nat.le_of_ble_eq_true rfl, Nat.le_of_ble_eq_true rfl⟩) hG (va_recv (q0 := 0) (ci := 5) hG.1 hP rfl rfl) (hP) rfl rfl hl.1 dX5_quarrel_40 (Nat.le_of_ble_eq_true rfl) ⟨Nat.le_of_ble_eq_true rfl, Nat.le_of_ble_eq_true rfl⟩ ?_
              have hf40_0 := rsn_le σ (e) (j)
              refine lv_if_le (tgt := 63) hx hb dX5_quarrel_43 (by decide) (fun h43 => ?_) (fun h43 => ?_)
              · skip
                have h43 : (rsn σ e j) = 0 := (z_le0 (by omega)).mp h43
                refine lv_iinc (v := nI (j + 1)) (lv' := [(5, .int (nI (j + 1))), (0, .ref (m 0)), (1, .int (nI e)), (2, .int (nI i)), (3, .int (nI 0)), (4, .int (nI (i - b)))]) hx hb dX5_quarrel_63 hl (k := 5) rfl (zinc1 _) (by decide) rfl (fun ls hl => ?_)
                refine lv_goto (tgt := 29) hx hb dX5_quarrel_66 (by decide) ?_
                exact ih29 (j + 1) b (by show _ = qb σ e j + (if rsn σ e j = 0 then 0 else 1); rw [← hb2, if_pos (by omega)]; rfl) (fun j2 hj2 => by rcases Nat.lt_succ_iff_lt_or_eq.mp hj2 with z | z; exact hz j2 z; (rw [z]; exact decide_eq_false (fun y => by omega))) (by omega) (by omega) (by omega) (by omega) _ (lv_sub hl [1, 2, 3, 4, 5, 0] rfl) _ _ (hP) (hD) hS
              · skip
                have h43 : ¬ ((rsn σ e j) = 0) := fun q => h43 ((z_le0 (by omega)).mpr q)
                have h43 : 0 < (rsn σ e j) := Nat.pos_of_ne_zero h43
                refine lv_iload hx hb dX5_quarrel_46 (lv_at hl 4 rfl) ?_
                refine lv_if_ne (tgt := 60) hx hb dX5_quarrel_48 (by decide) (fun h48 => ?_) (fun h48 => ?_)
                · skip
                  have h48 : ¬ ((i - b) = 0) := fun q => h48 ((z_eq0 (by omega)).mpr q)
                  have h48 : 0 < (i - b) := Nat.pos_of_ne_zero h48
                  refine lv_iinc (v := nI (i - (b + 1))) (lv' := [(4, .int (nI (i - (b + 1)))), (0, .ref (m 0)), (1, .int (nI e)), (2, .int (nI i)), (3, .int (nI 0)), (5, .int (nI j))]) hx hb dX5_quarrel_60 hl (k := 4) rfl (zdec2 (by omega)) (by decide) rfl (fun ls hl => ?_)
                  refine lv_iinc (v := nI (j + 1)) (lv' := [(5, .int (nI (j + 1))), (4, .int (nI (i - (b + 1)))), (0, .ref (m 0)), (1, .int (nI e)), (2, .int (nI i)), (3, .int (nI 0))]) hx hb dX5_quarrel_63 hl (k := 5) rfl (zinc1 _) (by decide) rfl (fun ls hl => ?_)
                  refine lv_goto (tgt := 29) hx hb dX5_quarrel_66 (by decide) ?_
                  exact ih29 (j + 1) (b + 1) (by show _ = qb σ e j + (if rsn σ e j = 0 then 0 else 1); rw [← hb2, if_neg (by omega)]) (fun j2 hj2 => by rcases Nat.lt_succ_iff_lt_or_eq.mp hj2 with z | z; exact hz j2 z; (rw [z]; exact decide_eq_false (fun y => by omega))) (by omega) (by omega) (by omega) (by omega) _ (lv_sub hl [2, 3, 4, 5, 1, 0] rfl) _ _ (hP) (hD) hS
                · skip
                  have h48 : (i - b) = 0 := (z_eq0 (by omega)).mp h48
                  refine lv_aload_n hx hb dX5_quarrel_51 rfl (lv_at hl 0 rfl) ?_
                  refine lv_iload_n hx hb dX5_quarrel_52 rfl (lv_at hl 1 rfl) ?_
                  refine lv_iload hx hb dX5_quarrel_53 (lv_at hl 5 rfl) ?_
                  refine lv_iload_n hx hb dX5_quarrel_55 rfl (lv_at hl 3 rfl) ?_
                  refine zrdV (As := [.int (nI e), .int (nI j), .int (nI 0)]) ⟨hx, hb, hml, hown, hts⟩ (kX5_quarrelAt_0 l G m σ V ζ ns x len B e j) (cwV 3 hts gX5_quarrel_X5_quarrelAt rfl rfl rfl (by decide +kernel) ⟨Nat.le_of_ble_eq_true rfl, Nat.le_of_ble_eq_true rfl⟩) hG (va_recv (q0 := 0) (ci := 5) hG.1 hP rfl rfl) (hP) rfl rfl hl.1 dX5_quarrel_56 (Nat.le_of_ble_eq_true rfl) ⟨Nat.le_of_ble_eq_true rfl, Nat.le_of_ble_eq_true rfl⟩ ?_
                  have hpq : pq σ e i = j := fst1_at (by omega) hz (decide_eq_true ⟨by omega, by omega⟩)
                  exact hret _ _ _ _ _ dX5_quarrel_59 hS (hP) (by rw [hpq])
        exact loop29 11 0 0 (rfl) (fun j hj => absurd hj (Nat.not_lt_zero j)) (by omega) (by omega) (by omega) (by omega) _ (lv_sub hl [2, 3, 4, 5, 1, 0] rfl) _ _ (hP) (hD) hS
      · skip
        have h18 : ¬ ((nI 0) ≤ (nI 0) ∧ (nI 0) ≤ (nI 3)) := (z_b0).mp h18
        exact absurd hvw h18
set_option maxHeartbeats 4000000 in
set_option maxRecDepth 100000 in
theorem kX5_quarrel_none1 (l : Launch) (G : zG) (m : Nat → Nat) (σ : Nat → Nat) (V : Nat → Nat → Nat) (ζ : Nat → Nat) (ns : Nat) (x : Nat → Nat) (len : Nat) (B : Nat → Int32) {N : Nat} (e : Nat) (i : Nat) (hO : Ok N σ) (hns : ns ≤ 4) (he : e < nE σ) (hi31 : i < 2 ^ 31) (hq : pq σ e i = 10) (hd : va_D (fun _ => True) (wM G m σ V ζ ns x len B)) : Met l yX5_quarrel wsX5_quarrel (zRm 6 139) (zPc G [.ref (m 0), .int (nI e), .int (nI i), .int (nI 1)] (va_P G.1 vwCl (wM G m σ V ζ ns x len B))) (zQ (zA (wM G m σ V ζ ns x len B)) (some (.int ((-4)))) (va_P G.1 vwCl (wM G m σ V ζ ns x len B))) 0 0 (zA (wM G m σ V ζ ns x len B)) := by
  refine zmkWi (w := (wM G m σ V ζ ns x len B)) hd (cc := cX5_quarrel) (maxL := 6) (by decide) rfl (Nat.le_of_ble_eq_true rfl) ?_
  intro pr en st mi ar bl me cd ls Q hx hb hml hown hts hG hP hl hD hS hret
  have hown : st.vm.findClass RX5 = some mi.cls := hown
  have hl : lv_has ls 6 [(0, .ref (m 0)), (1, .int (nI e)), (2, .int (nI i)), (3, .int (nI 1))] := hl
  have hP : va_P G.1 vwCl (wM G m σ V ζ ns x len B) st.heap := hP
  have hD : va_D (zA (wM G m σ V ζ ns x len B)) (wM G m σ V ζ ns x len B) := hD
  have hc := hO.c
  have hs := hO.lS
  have hr := hO.lR
  have hne := hO.lE
  have hve : 0 ≤ nI e ∧ nI e < nI (nE σ) := z_in he (by omega)
  have hvw : nI 0 ≤ nI 1 ∧ nI 1 ≤ nI 3 := by decide
  refine lv_aload_n hx hb dX5_quarrel_0 rfl (lv_at hl 0 rfl) ?_
  refine lv_iload_n hx hb dX5_quarrel_1 rfl (lv_at hl 1 rfl) ?_
  refine zrdV (As := [.int (nI e)]) ⟨hx, hb, hml, hown, hts⟩ (kX5_isEdge l G m σ V ζ ns x len B (nI e) (hO)) (cwV 1 hts gX5_quarrel_X5_isEdge rfl rfl rfl (by decide +kernel) ⟨Nat.le_of_ble_eq_true rfl, Nat.le_of_ble_eq_true rfl⟩) hG (va_recv (q0 := 0) (ci := 5) hG.1 hP rfl rfl) (hP) rfl rfl hl.1 dX5_quarrel_2 (Nat.le_of_ble_eq_true rfl) ⟨Nat.le_of_ble_eq_true rfl, Nat.le_of_ble_eq_true rfl⟩ ?_
  refine lv_if_eq (tgt := 21) hx hb dX5_quarrel_5 (by decide) (fun h5 => ?_) (fun h5 => ?_)
  · skip
    have h5 : ¬ (0 ≤ (nI e) ∧ (nI e) < nI (nE σ)) := (z_b0).mp h5
    exact absurd hve h5
  · skip
    have h5 : ¬ (¬ (0 ≤ (nI e) ∧ (nI e) < nI (nE σ))) := fun q => h5 ((z_b0).mpr q)
    have h5 : 0 ≤ (nI e) ∧ (nI e) < nI (nE σ) := Decidable.of_not_not h5
    refine lv_iload_n hx hb dX5_quarrel_8 rfl (lv_at hl 2 rfl) ?_
    refine lv_if_lt (tgt := 21) hx hb dX5_quarrel_9 (by decide) (fun h9 => ?_) (fun h9 => ?_)
    · skip
      have h9 : False := (z_lt0 (by omega)).mp h9
      exfalso; omega
    · skip
      have h9 : ¬ (False) := fun q => h9 ((z_lt0 (by omega)).mpr q)
      refine lv_iload_n hx hb dX5_quarrel_12 rfl (lv_at hl 3 rfl) ?_
      refine lv_iconst (v := nI 0) hx hb dX5_quarrel_13 (by decide) ?_
      refine lv_iconst (v := nI 3) hx hb dX5_quarrel_14 (by decide) ?_
      refine zrdS (As := [.int (nI 1), .int (nI 0), .int (nI 3)]) ⟨hx, hb, hml, hown, hts⟩ (kX5_in l G  (nI 1) (nI 0) (nI 3)) (va_cwS 3 hts gX5_quarrel_X5_in rfl rfl rfl (by decide +kernel) ⟨Nat.le_of_ble_eq_true rfl, Nat.le_of_ble_eq_true rfl⟩) hG (trivial) rfl rfl hl.1 dX5_quarrel_15 (Nat.le_of_ble_eq_true rfl) ⟨Nat.le_of_ble_eq_true rfl, Nat.le_of_ble_eq_true rfl⟩ ?_
      refine lv_if_ne (tgt := 23) hx hb dX5_quarrel_18 (by decide) (fun h18 => ?_) (fun h18 => ?_)
      · skip
        have h18 : ¬ (¬ ((nI 0) ≤ (nI 1) ∧ (nI 1) ≤ (nI 3))) := fun q => h18 ((z_b0).mpr q)
        have h18 : (nI 0) ≤ (nI 1) ∧ (nI 1) ≤ (nI 3) := Decidable.of_not_not h18
        refine lv_iload_n hx hb dX5_quarrel_23 rfl (lv_at hl 2 rfl) ?_
        refine lv_istore (lv' := [(4, .int (nI i)), (0, .ref (m 0)), (1, .int (nI e)), (2, .int (nI i)), (3, .int (nI 1))]) hx hb dX5_quarrel_24 hl (by decide) rfl (fun ls hl => ?_)
        refine lv_iconst (v := nI 0) hx hb dX5_quarrel_26 (by decide) ?_
        refine lv_istore (lv' := [(5, .int (nI 0)), (4, .int (nI i)), (0, .ref (m 0)), (1, .int (nI e)), (2, .int (nI i)), (3, .int (nI 1))]) hx hb dX5_quarrel_27 hl (by decide) rfl (fun ls hl => ?_)
        have loop29 : ∀ (n : Nat) (j : Nat) (b : Nat) (hb2 : b = qb σ e j) (hz : ∀ j2, j2 < j → decide (rsn σ e j2 ≠ 0 ∧ qb σ e j2 = i) = false) (hbi : b ≤ i) (hbj : b ≤ j) (hj : j ≤ 10) (hn : 10 < j + n) (ls : Array Slot) (hl : lv_has ls 6 [(0, .ref (m 0)), (1, .int (nI e)), (2, .int (nI i)), (3, .int (nI 1)), (4, .int (nI (i - b))), (5, .int (nI j))]) (H : Heap) (locs : List Loc) (hP : va_P G.1 vwCl (wM G m σ V ζ ns x len B) H) (hD : va_D (zA (wM G m σ V ζ ns x len B)) (wM G m σ V ζ ns x len B)) (hS : va_S (zA (wM G m σ V ζ ns x len B)) st.heap H locs), W pr l en (zRm 6 139) st mi ar bl me cd H locs 0 0 Q (F0 mi 29 ls []) := by
          intro n
          induction n with
          | zero => intro j b hb2 hz hbi hbj hj hn ls hl H locs hP hD hS; exfalso; omega
          | succ n ih29 =>
            intro j b hb2 hz hbi hbj hj hn ls hl H locs hP hD hS
            refine lv_iload hx hb dX5_quarrel_29 (lv_at hl 5 rfl) ?_
            refine lv_bipush (v := nI 10) hx hb dX5_quarrel_31 (by decide) ?_
            refine lv_icmp_ge (tgt := 69) hx hb dX5_quarrel_33 (by decide) (fun h33 => ?_) (fun h33 => ?_)
            · skip
              have h33 : 10 ≤ j := (nI_leI (by omega) (by omega)).mp h33
              refine lv_bipush (v := (-4)) hx hb dX5_quarrel_69 (by decide) ?_
              exact hret _ _ _ _ _ dX5_quarrel_71 hS (hP) (rfl)
            · skip
              have h33 : ¬ (10 ≤ j) := fun q => h33 ((nI_leI (by omega) (by omega)).mpr q)
              refine lv_aload_n hx hb dX5_quarrel_36 rfl (lv_at hl 0 rfl) ?_
              refine lv_iload_n hx hb dX5_quarrel_37 rfl (lv_at hl 1 rfl) ?_
              refine lv_iload hx hb dX5_quarrel_38 (lv_at hl 5 rfl) ?_
              refine zrdV (As := [.int (nI e), .int (nI j)]) ⟨hx, hb, hml, hown, hts⟩ (kX5_reasonAt l G m σ V ζ ns x len B e j (hO) (by omega) (by omega)) (cwV 2 hts gX5_quarrel_X5_reasonAt rfl rfl rfl (by decide +kernel) ⟨Nat.le_of_ble_eq_true rfl, Nat.le_of_ble_eq_true rfl⟩) hG (va_recv (q0 := 0) (ci := 5) hG.1 hP rfl rfl) (hP) rfl rfl hl.1 dX5_quarrel_40 (Nat.le_of_ble_eq_true rfl) ⟨Nat.le_of_ble_eq_true rfl, Nat.le_of_ble_eq_true rfl⟩ ?_
              have hf40_0 := rsn_le σ (e) (j)
              refine lv_if_le (tgt := 63) hx hb dX5_quarrel_43 (by decide) (fun h43 => ?_) (fun h43 => ?_)
              · skip
                have h43 : (rsn σ e j) = 0 := (z_le0 (by omega)).mp h43
                refine lv_iinc (v := nI (j + 1)) (lv' := [(5, .int (nI (j + 1))), (0, .ref (m 0)), (1, .int (nI e)), (2, .int (nI i)), (3, .int (nI 1)), (4, .int (nI (i - b)))]) hx hb dX5_quarrel_63 hl (k := 5) rfl (zinc1 _) (by decide) rfl (fun ls hl => ?_)
                refine lv_goto (tgt := 29) hx hb dX5_quarrel_66 (by decide) ?_
                exact ih29 (j + 1) b (by show _ = qb σ e j + (if rsn σ e j = 0 then 0 else 1); rw [← hb2, if_pos (by omega)]; rfl) (fun j2 hj2 => by rcases Nat.lt_succ_iff_lt_or_eq.mp hj2 with z | z; exact hz j2 z; (rw [z]; exact decide_eq_false (fun y => by omega))) (by omega) (by omega) (by omega) (by omega) _ (lv_sub hl [1, 2, 3, 4, 5, 0] rfl) _ _ (hP) (hD) hS
              · skip
                have h43 : ¬ ((rsn σ e j) = 0) := fun q => h43 ((z_le0 (by omega)).mpr q)
                have h43 : 0 < (rsn σ e j) := Nat.pos_of_ne_zero h43
                refine lv_iload hx hb dX5_quarrel_46 (lv_at hl 4 rfl) ?_
                refine lv_if_ne (tgt := 60) hx hb dX5_quarrel_48 (by decide) (fun h48 => ?_) (fun h48 => ?_)
                · skip
                  have h48 : ¬ ((i - b) = 0) := fun q => h48 ((z_eq0 (by omega)).mpr q)
                  have h48 : 0 < (i - b) := Nat.pos_of_ne_zero h48
                  refine lv_iinc (v := nI (i - (b + 1))) (lv' := [(4, .int (nI (i - (b + 1)))), (0, .ref (m 0)), (1, .int (nI e)), (2, .int (nI i)), (3, .int (nI 1)), (5, .int (nI j))]) hx hb dX5_quarrel_60 hl (k := 4) rfl (zdec2 (by omega)) (by decide) rfl (fun ls hl => ?_)
                  refine lv_iinc (v := nI (j + 1)) (lv' := [(5, .int (nI (j + 1))), (4, .int (nI (i - (b + 1)))), (0, .ref (m 0)), (1, .int (nI e)), (2, .int (nI i)), (3, .int (nI 1))]) hx hb dX5_quarrel_63 hl (k := 5) rfl (zinc1 _) (by decide) rfl (fun ls hl => ?_)
                  refine lv_goto (tgt := 29) hx hb dX5_quarrel_66 (by decide) ?_
                  exact ih29 (j + 1) (b + 1) (by show _ = qb σ e j + (if rsn σ e j = 0 then 0 else 1); rw [← hb2, if_neg (by omega)]) (fun j2 hj2 => by rcases Nat.lt_succ_iff_lt_or_eq.mp hj2 with z | z; exact hz j2 z; (rw [z]; exact decide_eq_false (fun y => by omega))) (by omega) (by omega) (by omega) (by omega) _ (lv_sub hl [2, 3, 4, 5, 1, 0] rfl) _ _ (hP) (hD) hS
                · skip
                  have h48 : (i - b) = 0 := (z_eq0 (by omega)).mp h48
                  exfalso; have hpq : pq σ e i = j := fst1_at (by omega) hz (decide_eq_true ⟨by omega, by omega⟩); omega
        exact loop29 11 0 0 (rfl) (fun j hj => absurd hj (Nat.not_lt_zero j)) (by omega) (by omega) (by omega) (by omega) _ (lv_sub hl [2, 3, 4, 5, 1, 0] rfl) _ _ (hP) (hD) hS
      · skip
        have h18 : ¬ ((nI 0) ≤ (nI 1) ∧ (nI 1) ≤ (nI 3)) := (z_b0).mp h18
        exact absurd hvw h18
set_option maxHeartbeats 4000000 in
set_option maxRecDepth 100000 in
theorem kX5_quarrel_1 (l : Launch) (G : zG) (m : Nat → Nat) (σ : Nat → Nat) (V : Nat → Nat → Nat) (ζ : Nat → Nat) (ns : Nat) (x : Nat → Nat) (len : Nat) (B : Nat → Int32) {N : Nat} (e : Nat) (i : Nat) (hO : Ok N σ) (hns : ns ≤ 4) (he : e < nE σ) (hi31 : i < 2 ^ 31) (hq : pq σ e i ≠ 10) (hd : va_D (fun _ => True) (wM G m σ V ζ ns x len B)) : Met l yX5_quarrel wsX5_quarrel (zRm 6 139) (zPc G [.ref (m 0), .int (nI e), .int (nI i), .int (nI 1)] (va_P G.1 vwCl (wM G m σ V ζ ns x len B))) (zQ (zA (wM G m σ V ζ ns x len B)) (some (.int (nI (rsn σ e (pq σ e i))))) (va_P G.1 vwCl (wM G m σ V ζ ns x len B))) 0 0 (zA (wM G m σ V ζ ns x len B)) := by
  refine zmkWi (w := (wM G m σ V ζ ns x len B)) hd (cc := cX5_quarrel) (maxL := 6) (by decide) rfl (Nat.le_of_ble_eq_true rfl) ?_
  intro pr en st mi ar bl me cd ls Q hx hb hml hown hts hG hP hl hD hS hret
  have hown : st.vm.findClass RX5 = some mi.cls := hown
  have hl : lv_has ls 6 [(0, .ref (m 0)), (1, .int (nI e)), (2, .int (nI i)), (3, .int (nI 1))] := hl
  have hP : va_P G.1 vwCl (wM G m σ V ζ ns x len B) st.heap := hP
  have hD : va_D (zA (wM G m σ V ζ ns x len B)) (wM G m σ V ζ ns x len B) := hD
  have hc := hO.c
  have hs := hO.lS
  have hr := hO.lR
  have hne := hO.lE
  have hve : 0 ≤ nI e ∧ nI e < nI (nE σ) := z_in he (by omega)
  have hvw : nI 0 ≤ nI 1 ∧ nI 1 ≤ nI 3 := by decide
  refine lv_aload_n hx hb dX5_quarrel_0 rfl (lv_at hl 0 rfl) ?_
  refine lv_iload_n hx hb dX5_quarrel_1 rfl (lv_at hl 1 rfl) ?_
  refine zrdV (As := [.int (nI e)]) ⟨hx, hb, hml, hown, hts⟩ (kX5_isEdge l G m σ V ζ ns x len B (nI e) (hO)) (cwV 1 hts gX5_quarrel_X5_isEdge rfl rfl rfl (by decide +kernel) ⟨Nat.le_of_ble_eq_true rfl, Nat.le_of_ble_eq_true rfl⟩) hG (va_recv (q0 := 0) (ci := 5) hG.1 hP rfl rfl) (hP) rfl rfl hl.1 dX5_quarrel_2 (Nat.le_of_ble_eq_true rfl) ⟨Nat.le_of_ble_eq_true rfl, Nat.le_of_ble_eq_true rfl⟩ ?_
  refine lv_if_eq (tgt := 21) hx hb dX5_quarrel_5 (by decide) (fun h5 => ?_) (fun h5 => ?_)
  · skip
    have h5 : ¬ (0 ≤ (nI e) ∧ (nI e) < nI (nE σ)) := (z_b0).mp h5
    exact absurd hve h5
  · skip
    have h5 : ¬ (¬ (0 ≤ (nI e) ∧ (nI e) < nI (nE σ))) := fun q => h5 ((z_b0).mpr q)
    have h5 : 0 ≤ (nI e) ∧ (nI e) < nI (nE σ) := Decidable.of_not_not h5
    refine lv_iload_n hx hb dX5_quarrel_8 rfl (lv_at hl 2 rfl) ?_
    refine lv_if_lt (tgt := 21) hx hb dX5_quarrel_9 (by decide) (fun h9 => ?_) (fun h9 => ?_)
    · skip
      have h9 : False := (z_lt0 (by omega)).mp h9
      exfalso; omega
    · skip
      have h9 : ¬ (False) := fun q => h9 ((z_lt0 (by omega)).mpr q)
      refine lv_iload_n hx hb dX5_quarrel_12 rfl (lv_at hl 3 rfl) ?_
      refine lv_iconst (v := nI 0) hx hb dX5_quarrel_13 (by decide) ?_
      refine lv_iconst (v := nI 3) hx hb dX5_quarrel_14 (by decide) ?_
      refine zrdS (As := [.int (nI 1), .int (nI 0), .int (nI 3)]) ⟨hx, hb, hml, hown, hts⟩ (kX5_in l G  (nI 1) (nI 0) (nI 3)) (va_cwS 3 hts gX5_quarrel_X5_in rfl rfl rfl (by decide +kernel) ⟨Nat.le_of_ble_eq_true rfl, Nat.le_of_ble_eq_true rfl⟩) hG (trivial) rfl rfl hl.1 dX5_quarrel_15 (Nat.le_of_ble_eq_true rfl) ⟨Nat.le_of_ble_eq_true rfl, Nat.le_of_ble_eq_true rfl⟩ ?_
      refine lv_if_ne (tgt := 23) hx hb dX5_quarrel_18 (by decide) (fun h18 => ?_) (fun h18 => ?_)
      · skip
        have h18 : ¬ (¬ ((nI 0) ≤ (nI 1) ∧ (nI 1) ≤ (nI 3))) := fun q => h18 ((z_b0).mpr q)
        have h18 : (nI 0) ≤ (nI 1) ∧ (nI 1) ≤ (nI 3) := Decidable.of_not_not h18
        refine lv_iload_n hx hb dX5_quarrel_23 rfl (lv_at hl 2 rfl) ?_
        refine lv_istore (lv' := [(4, .int (nI i)), (0, .ref (m 0)), (1, .int (nI e)), (2, .int (nI i)), (3, .int (nI 1))]) hx hb dX5_quarrel_24 hl (by decide) rfl (fun ls hl => ?_)
        refine lv_iconst (v := nI 0) hx hb dX5_quarrel_26 (by decide) ?_
        refine lv_istore (lv' := [(5, .int (nI 0)), (4, .int (nI i)), (0, .ref (m 0)), (1, .int (nI e)), (2, .int (nI i)), (3, .int (nI 1))]) hx hb dX5_quarrel_27 hl (by decide) rfl (fun ls hl => ?_)
        have loop29 : ∀ (n : Nat) (j : Nat) (b : Nat) (hb2 : b = qb σ e j) (hz : ∀ j2, j2 < j → decide (rsn σ e j2 ≠ 0 ∧ qb σ e j2 = i) = false) (hbi : b ≤ i) (hbj : b ≤ j) (hj : j ≤ 10) (hn : 10 < j + n) (ls : Array Slot) (hl : lv_has ls 6 [(0, .ref (m 0)), (1, .int (nI e)), (2, .int (nI i)), (3, .int (nI 1)), (4, .int (nI (i - b))), (5, .int (nI j))]) (H : Heap) (locs : List Loc) (hP : va_P G.1 vwCl (wM G m σ V ζ ns x len B) H) (hD : va_D (zA (wM G m σ V ζ ns x len B)) (wM G m σ V ζ ns x len B)) (hS : va_S (zA (wM G m σ V ζ ns x len B)) st.heap H locs), W pr l en (zRm 6 139) st mi ar bl me cd H locs 0 0 Q (F0 mi 29 ls []) := by
          intro n
          induction n with
          | zero => intro j b hb2 hz hbi hbj hj hn ls hl H locs hP hD hS; exfalso; omega
          | succ n ih29 =>
            intro j b hb2 hz hbi hbj hj hn ls hl H locs hP hD hS
            refine lv_iload hx hb dX5_quarrel_29 (lv_at hl 5 rfl) ?_
            refine lv_bipush (v := nI 10) hx hb dX5_quarrel_31 (by decide) ?_
            refine lv_icmp_ge (tgt := 69) hx hb dX5_quarrel_33 (by decide) (fun h33 => ?_) (fun h33 => ?_)
            · skip
              have h33 : 10 ≤ j := (nI_leI (by omega) (by omega)).mp h33
              exfalso; have hpq : pq σ e i = 10 := fst1_no (fun j2 hj2 => hz j2 (by omega)); omega
            · skip
              have h33 : ¬ (10 ≤ j) := fun q => h33 ((nI_leI (by omega) (by omega)).mpr q)
              refine lv_aload_n hx hb dX5_quarrel_36 rfl (lv_at hl 0 rfl) ?_
              refine lv_iload_n hx hb dX5_quarrel_37 rfl (lv_at hl 1 rfl) ?_
              refine lv_iload hx hb dX5_quarrel_38 (lv_at hl 5 rfl) ?_
              refine zrdV (As := [.int (nI e), .int (nI j)]) ⟨hx, hb, hml, hown, hts⟩ (kX5_reasonAt l G m σ V ζ ns x len B e j (hO) (by omega) (by omega)) (cwV 2 hts gX5_quarrel_X5_reasonAt rfl rfl rfl (by decide +kernel) ⟨Nat.le_of_ble_eq_true rfl, Nat.le_of_ble_eq_true rfl⟩) hG (va_recv (q0 := 0) (ci := 5) hG.1 hP rfl rfl) (hP) rfl rfl hl.1 dX5_quarrel_40 (Nat.le_of_ble_eq_true rfl) ⟨Nat.le_of_ble_eq_true rfl, Nat.le_of_ble_eq_true rfl⟩ ?_
              have hf40_0 := rsn_le σ (e) (j)
              refine lv_if_le (tgt := 63) hx hb dX5_quarrel_43 (by decide) (fun h43 => ?_) (fun h43 => ?_)
              · skip
                have h43 : (rsn σ e j) = 0 := (z_le0 (by omega)).mp h43
                refine lv_iinc (v := nI (j + 1)) (lv' := [(5, .int (nI (j + 1))), (0, .ref (m 0)), (1, .int (nI e)), (2, .int (nI i)), (3, .int (nI 1)), (4, .int (nI (i - b)))]) hx hb dX5_quarrel_63 hl (k := 5) rfl (zinc1 _) (by decide) rfl (fun ls hl => ?_)
                refine lv_goto (tgt := 29) hx hb dX5_quarrel_66 (by decide) ?_
                exact ih29 (j + 1) b (by show _ = qb σ e j + (if rsn σ e j = 0 then 0 else 1); rw [← hb2, if_pos (by omega)]; rfl) (fun j2 hj2 => by rcases Nat.lt_succ_iff_lt_or_eq.mp hj2 with z | z; exact hz j2 z; (rw [z]; exact decide_eq_false (fun y => by omega))) (by omega) (by omega) (by omega) (by omega) _ (lv_sub hl [1, 2, 3, 4, 5, 0] rfl) _ _ (hP) (hD) hS
              · skip
                have h43 : ¬ ((rsn σ e j) = 0) := fun q => h43 ((z_le0 (by omega)).mpr q)
                have h43 : 0 < (rsn σ e j) := Nat.pos_of_ne_zero h43
                refine lv_iload hx hb dX5_quarrel_46 (lv_at hl 4 rfl) ?_
                refine lv_if_ne (tgt := 60) hx hb dX5_quarrel_48 (by decide) (fun h48 => ?_) (fun h48 => ?_)
                · skip
                  have h48 : ¬ ((i - b) = 0) := fun q => h48 ((z_eq0 (by omega)).mpr q)
                  have h48 : 0 < (i - b) := Nat.pos_of_ne_zero h48
                  refine lv_iinc (v := nI (i - (b + 1))) (lv' := [(4, .int (nI (i - (b + 1)))), (0, .ref (m 0)), (1, .int (nI e)), (2, .int (nI i)), (3, .int (nI 1)), (5, .int (nI j))]) hx hb dX5_quarrel_60 hl (k := 4) rfl (zdec2 (by omega)) (by decide) rfl (fun ls hl => ?_)
                  refine lv_iinc (v := nI (j + 1)) (lv' := [(5, .int (nI (j + 1))), (4, .int (nI (i - (b + 1)))), (0, .ref (m 0)), (1, .int (nI e)), (2, .int (nI i)), (3, .int (nI 1))]) hx hb dX5_quarrel_63 hl (k := 5) rfl (zinc1 _) (by decide) rfl (fun ls hl => ?_)
                  refine lv_goto (tgt := 29) hx hb dX5_quarrel_66 (by decide) ?_
                  exact ih29 (j + 1) (b + 1) (by show _ = qb σ e j + (if rsn σ e j = 0 then 0 else 1); rw [← hb2, if_neg (by omega)]) (fun j2 hj2 => by rcases Nat.lt_succ_iff_lt_or_eq.mp hj2 with z | z; exact hz j2 z; (rw [z]; exact decide_eq_false (fun y => by omega))) (by omega) (by omega) (by omega) (by omega) _ (lv_sub hl [2, 3, 4, 5, 1, 0] rfl) _ _ (hP) (hD) hS
                · skip
                  have h48 : (i - b) = 0 := (z_eq0 (by omega)).mp h48
                  refine lv_aload_n hx hb dX5_quarrel_51 rfl (lv_at hl 0 rfl) ?_
                  refine lv_iload_n hx hb dX5_quarrel_52 rfl (lv_at hl 1 rfl) ?_
                  refine lv_iload hx hb dX5_quarrel_53 (lv_at hl 5 rfl) ?_
                  refine lv_iload_n hx hb dX5_quarrel_55 rfl (lv_at hl 3 rfl) ?_
                  refine zrdV (As := [.int (nI e), .int (nI j), .int (nI 1)]) ⟨hx, hb, hml, hown, hts⟩ (kX5_quarrelAt_1 l G m σ V ζ ns x len B e j (hO) (by omega) (by omega)) (cwV 3 hts gX5_quarrel_X5_quarrelAt rfl rfl rfl (by decide +kernel) ⟨Nat.le_of_ble_eq_true rfl, Nat.le_of_ble_eq_true rfl⟩) hG (va_recv (q0 := 0) (ci := 5) hG.1 hP rfl rfl) (hP) rfl rfl hl.1 dX5_quarrel_56 (Nat.le_of_ble_eq_true rfl) ⟨Nat.le_of_ble_eq_true rfl, Nat.le_of_ble_eq_true rfl⟩ ?_
                  have hpq : pq σ e i = j := fst1_at (by omega) hz (decide_eq_true ⟨by omega, by omega⟩)
                  exact hret _ _ _ _ _ dX5_quarrel_59 hS (hP) (by rw [hpq])
        exact loop29 11 0 0 (rfl) (fun j hj => absurd hj (Nat.not_lt_zero j)) (by omega) (by omega) (by omega) (by omega) _ (lv_sub hl [2, 3, 4, 5, 1, 0] rfl) _ _ (hP) (hD) hS
      · skip
        have h18 : ¬ ((nI 0) ≤ (nI 1) ∧ (nI 1) ≤ (nI 3)) := (z_b0).mp h18
        exact absurd hvw h18
set_option maxHeartbeats 4000000 in
set_option maxRecDepth 100000 in
theorem kX5_quarrel_none2 (l : Launch) (G : zG) (m : Nat → Nat) (σ : Nat → Nat) (V : Nat → Nat → Nat) (ζ : Nat → Nat) (ns : Nat) (x : Nat → Nat) (len : Nat) (B : Nat → Int32) {N : Nat} (e : Nat) (i : Nat) (hO : Ok N σ) (hns : ns ≤ 4) (he : e < nE σ) (hi31 : i < 2 ^ 31) (hq : pq σ e i = 10) (hd : va_D (fun _ => True) (wM G m σ V ζ ns x len B)) : Met l yX5_quarrel wsX5_quarrel (zRm 6 139) (zPc G [.ref (m 0), .int (nI e), .int (nI i), .int (nI 2)] (va_P G.1 vwCl (wM G m σ V ζ ns x len B))) (zQ (zA (wM G m σ V ζ ns x len B)) (some (.int ((-4)))) (va_P G.1 vwCl (wM G m σ V ζ ns x len B))) 0 0 (zA (wM G m σ V ζ ns x len B)) := by
  refine zmkWi (w := (wM G m σ V ζ ns x len B)) hd (cc := cX5_quarrel) (maxL := 6) (by decide) rfl (Nat.le_of_ble_eq_true rfl) ?_
  intro pr en st mi ar bl me cd ls Q hx hb hml hown hts hG hP hl hD hS hret
  have hown : st.vm.findClass RX5 = some mi.cls := hown
  have hl : lv_has ls 6 [(0, .ref (m 0)), (1, .int (nI e)), (2, .int (nI i)), (3, .int (nI 2))] := hl
  have hP : va_P G.1 vwCl (wM G m σ V ζ ns x len B) st.heap := hP
  have hD : va_D (zA (wM G m σ V ζ ns x len B)) (wM G m σ V ζ ns x len B) := hD
  have hc := hO.c
  have hs := hO.lS
  have hr := hO.lR
  have hne := hO.lE
  have hve : 0 ≤ nI e ∧ nI e < nI (nE σ) := z_in he (by omega)
  have hvw : nI 0 ≤ nI 2 ∧ nI 2 ≤ nI 3 := by decide
  refine lv_aload_n hx hb dX5_quarrel_0 rfl (lv_at hl 0 rfl) ?_
  refine lv_iload_n hx hb dX5_quarrel_1 rfl (lv_at hl 1 rfl) ?_
  refine zrdV (As := [.int (nI e)]) ⟨hx, hb, hml, hown, hts⟩ (kX5_isEdge l G m σ V ζ ns x len B (nI e) (hO)) (cwV 1 hts gX5_quarrel_X5_isEdge rfl rfl rfl (by decide +kernel) ⟨Nat.le_of_ble_eq_true rfl, Nat.le_of_ble_eq_true rfl⟩) hG (va_recv (q0 := 0) (ci := 5) hG.1 hP rfl rfl) (hP) rfl rfl hl.1 dX5_quarrel_2 (Nat.le_of_ble_eq_true rfl) ⟨Nat.le_of_ble_eq_true rfl, Nat.le_of_ble_eq_true rfl⟩ ?_
  refine lv_if_eq (tgt := 21) hx hb dX5_quarrel_5 (by decide) (fun h5 => ?_) (fun h5 => ?_)
  · skip
    have h5 : ¬ (0 ≤ (nI e) ∧ (nI e) < nI (nE σ)) := (z_b0).mp h5
    exact absurd hve h5
  · skip
    have h5 : ¬ (¬ (0 ≤ (nI e) ∧ (nI e) < nI (nE σ))) := fun q => h5 ((z_b0).mpr q)
    have h5 : 0 ≤ (nI e) ∧ (nI e) < nI (nE σ) := Decidable.of_not_not h5
    refine lv_iload_n hx hb dX5_quarrel_8 rfl (lv_at hl 2 rfl) ?_
    refine lv_if_lt (tgt := 21) hx hb dX5_quarrel_9 (by decide) (fun h9 => ?_) (fun h9 => ?_)
    · skip
      have h9 : False := (z_lt0 (by omega)).mp h9
      exfalso; omega
    · skip
      have h9 : ¬ (False) := fun q => h9 ((z_lt0 (by omega)).mpr q)
      refine lv_iload_n hx hb dX5_quarrel_12 rfl (lv_at hl 3 rfl) ?_
      refine lv_iconst (v := nI 0) hx hb dX5_quarrel_13 (by decide) ?_
      refine lv_iconst (v := nI 3) hx hb dX5_quarrel_14 (by decide) ?_
      refine zrdS (As := [.int (nI 2), .int (nI 0), .int (nI 3)]) ⟨hx, hb, hml, hown, hts⟩ (kX5_in l G  (nI 2) (nI 0) (nI 3)) (va_cwS 3 hts gX5_quarrel_X5_in rfl rfl rfl (by decide +kernel) ⟨Nat.le_of_ble_eq_true rfl, Nat.le_of_ble_eq_true rfl⟩) hG (trivial) rfl rfl hl.1 dX5_quarrel_15 (Nat.le_of_ble_eq_true rfl) ⟨Nat.le_of_ble_eq_true rfl, Nat.le_of_ble_eq_true rfl⟩ ?_
      refine lv_if_ne (tgt := 23) hx hb dX5_quarrel_18 (by decide) (fun h18 => ?_) (fun h18 => ?_)
      · skip
        have h18 : ¬ (¬ ((nI 0) ≤ (nI 2) ∧ (nI 2) ≤ (nI 3))) := fun q => h18 ((z_b0).mpr q)
        have h18 : (nI 0) ≤ (nI 2) ∧ (nI 2) ≤ (nI 3) := Decidable.of_not_not h18
        refine lv_iload_n hx hb dX5_quarrel_23 rfl (lv_at hl 2 rfl) ?_
        refine lv_istore (lv' := [(4, .int (nI i)), (0, .ref (m 0)), (1, .int (nI e)), (2, .int (nI i)), (3, .int (nI 2))]) hx hb dX5_quarrel_24 hl (by decide) rfl (fun ls hl => ?_)
        refine lv_iconst (v := nI 0) hx hb dX5_quarrel_26 (by decide) ?_
        refine lv_istore (lv' := [(5, .int (nI 0)), (4, .int (nI i)), (0, .ref (m 0)), (1, .int (nI e)), (2, .int (nI i)), (3, .int (nI 2))]) hx hb dX5_quarrel_27 hl (by decide) rfl (fun ls hl => ?_)
        have loop29 : ∀ (n : Nat) (j : Nat) (b : Nat) (hb2 : b = qb σ e j) (hz : ∀ j2, j2 < j → decide (rsn σ e j2 ≠ 0 ∧ qb σ e j2 = i) = false) (hbi : b ≤ i) (hbj : b ≤ j) (hj : j ≤ 10) (hn : 10 < j + n) (ls : Array Slot) (hl : lv_has ls 6 [(0, .ref (m 0)), (1, .int (nI e)), (2, .int (nI i)), (3, .int (nI 2)), (4, .int (nI (i - b))), (5, .int (nI j))]) (H : Heap) (locs : List Loc) (hP : va_P G.1 vwCl (wM G m σ V ζ ns x len B) H) (hD : va_D (zA (wM G m σ V ζ ns x len B)) (wM G m σ V ζ ns x len B)) (hS : va_S (zA (wM G m σ V ζ ns x len B)) st.heap H locs), W pr l en (zRm 6 139) st mi ar bl me cd H locs 0 0 Q (F0 mi 29 ls []) := by
          intro n
          induction n with
          | zero => intro j b hb2 hz hbi hbj hj hn ls hl H locs hP hD hS; exfalso; omega
          | succ n ih29 =>
            intro j b hb2 hz hbi hbj hj hn ls hl H locs hP hD hS
            refine lv_iload hx hb dX5_quarrel_29 (lv_at hl 5 rfl) ?_
            refine lv_bipush (v := nI 10) hx hb dX5_quarrel_31 (by decide) ?_
            refine lv_icmp_ge (tgt := 69) hx hb dX5_quarrel_33 (by decide) (fun h33 => ?_) (fun h33 => ?_)
            · skip
              have h33 : 10 ≤ j := (nI_leI (by omega) (by omega)).mp h33
              refine lv_bipush (v := (-4)) hx hb dX5_quarrel_69 (by decide) ?_
              exact hret _ _ _ _ _ dX5_quarrel_71 hS (hP) (rfl)
            · skip
              have h33 : ¬ (10 ≤ j) := fun q => h33 ((nI_leI (by omega) (by omega)).mpr q)
              refine lv_aload_n hx hb dX5_quarrel_36 rfl (lv_at hl 0 rfl) ?_
              refine lv_iload_n hx hb dX5_quarrel_37 rfl (lv_at hl 1 rfl) ?_
              refine lv_iload hx hb dX5_quarrel_38 (lv_at hl 5 rfl) ?_
              refine zrdV (As := [.int (nI e), .int (nI j)]) ⟨hx, hb, hml, hown, hts⟩ (kX5_reasonAt l G m σ V ζ ns x len B e j (hO) (by omega) (by omega)) (cwV 2 hts gX5_quarrel_X5_reasonAt rfl rfl rfl (by decide +kernel) ⟨Nat.le_of_ble_eq_true rfl, Nat.le_of_ble_eq_true rfl⟩) hG (va_recv (q0 := 0) (ci := 5) hG.1 hP rfl rfl) (hP) rfl rfl hl.1 dX5_quarrel_40 (Nat.le_of_ble_eq_true rfl) ⟨Nat.le_of_ble_eq_true rfl, Nat.le_of_ble_eq_true rfl⟩ ?_
              have hf40_0 := rsn_le σ (e) (j)
              refine lv_if_le (tgt := 63) hx hb dX5_quarrel_43 (by decide) (fun h43 => ?_) (fun h43 => ?_)
              · skip
                have h43 : (rsn σ e j) = 0 := (z_le0 (by omega)).mp h43
                refine lv_iinc (v := nI (j + 1)) (lv' := [(5, .int (nI (j + 1))), (0, .ref (m 0)), (1, .int (nI e)), (2, .int (nI i)), (3, .int (nI 2)), (4, .int (nI (i - b)))]) hx hb dX5_quarrel_63 hl (k := 5) rfl (zinc1 _) (by decide) rfl (fun ls hl => ?_)
                refine lv_goto (tgt := 29) hx hb dX5_quarrel_66 (by decide) ?_
                exact ih29 (j + 1) b (by show _ = qb σ e j + (if rsn σ e j = 0 then 0 else 1); rw [← hb2, if_pos (by omega)]; rfl) (fun j2 hj2 => by rcases Nat.lt_succ_iff_lt_or_eq.mp hj2 with z | z; exact hz j2 z; (rw [z]; exact decide_eq_false (fun y => by omega))) (by omega) (by omega) (by omega) (by omega) _ (lv_sub hl [1, 2, 3, 4, 5, 0] rfl) _ _ (hP) (hD) hS
              · skip
                have h43 : ¬ ((rsn σ e j) = 0) := fun q => h43 ((z_le0 (by omega)).mpr q)
                have h43 : 0 < (rsn σ e j) := Nat.pos_of_ne_zero h43
                refine lv_iload hx hb dX5_quarrel_46 (lv_at hl 4 rfl) ?_
                refine lv_if_ne (tgt := 60) hx hb dX5_quarrel_48 (by decide) (fun h48 => ?_) (fun h48 => ?_)
                · skip
                  have h48 : ¬ ((i - b) = 0) := fun q => h48 ((z_eq0 (by omega)).mpr q)
                  have h48 : 0 < (i - b) := Nat.pos_of_ne_zero h48
                  refine lv_iinc (v := nI (i - (b + 1))) (lv' := [(4, .int (nI (i - (b + 1)))), (0, .ref (m 0)), (1, .int (nI e)), (2, .int (nI i)), (3, .int (nI 2)), (5, .int (nI j))]) hx hb dX5_quarrel_60 hl (k := 4) rfl (zdec2 (by omega)) (by decide) rfl (fun ls hl => ?_)
                  refine lv_iinc (v := nI (j + 1)) (lv' := [(5, .int (nI (j + 1))), (4, .int (nI (i - (b + 1)))), (0, .ref (m 0)), (1, .int (nI e)), (2, .int (nI i)), (3, .int (nI 2))]) hx hb dX5_quarrel_63 hl (k := 5) rfl (zinc1 _) (by decide) rfl (fun ls hl => ?_)
                  refine lv_goto (tgt := 29) hx hb dX5_quarrel_66 (by decide) ?_
                  exact ih29 (j + 1) (b + 1) (by show _ = qb σ e j + (if rsn σ e j = 0 then 0 else 1); rw [← hb2, if_neg (by omega)]) (fun j2 hj2 => by rcases Nat.lt_succ_iff_lt_or_eq.mp hj2 with z | z; exact hz j2 z; (rw [z]; exact decide_eq_false (fun y => by omega))) (by omega) (by omega) (by omega) (by omega) _ (lv_sub hl [2, 3, 4, 5, 1, 0] rfl) _ _ (hP) (hD) hS
                · skip
                  have h48 : (i - b) = 0 := (z_eq0 (by omega)).mp h48
                  exfalso; have hpq : pq σ e i = j := fst1_at (by omega) hz (decide_eq_true ⟨by omega, by omega⟩); omega
        exact loop29 11 0 0 (rfl) (fun j hj => absurd hj (Nat.not_lt_zero j)) (by omega) (by omega) (by omega) (by omega) _ (lv_sub hl [2, 3, 4, 5, 1, 0] rfl) _ _ (hP) (hD) hS
      · skip
        have h18 : ¬ ((nI 0) ≤ (nI 2) ∧ (nI 2) ≤ (nI 3)) := (z_b0).mp h18
        exact absurd hvw h18
set_option maxHeartbeats 4000000 in
set_option maxRecDepth 100000 in
theorem kX5_quarrel_2 (l : Launch) (G : zG) (m : Nat → Nat) (σ : Nat → Nat) (V : Nat → Nat → Nat) (ζ : Nat → Nat) (ns : Nat) (x : Nat → Nat) (len : Nat) (B : Nat → Int32) {N : Nat} (e : Nat) (i : Nat) (hO : Ok N σ) (hns : ns ≤ 4) (he : e < nE σ) (hi31 : i < 2 ^ 31) (hq : pq σ e i ≠ 10) (hd : va_D (fun _ => True) (wM G m σ V ζ ns x len B)) : Met l yX5_quarrel wsX5_quarrel (zRm 6 139) (zPc G [.ref (m 0), .int (nI e), .int (nI i), .int (nI 2)] (va_P G.1 vwCl (wM G m σ V ζ ns x len B))) (zQ (zA (wM G m σ V ζ ns x len B)) (some (.int (zc 10 (mns σ (fS σ e) (fD σ e) (pq σ e i))))) (va_P G.1 vwCl (wM G m σ V ζ ns x len B))) 0 0 (zA (wM G m σ V ζ ns x len B)) := by
  refine zmkWi (w := (wM G m σ V ζ ns x len B)) hd (cc := cX5_quarrel) (maxL := 6) (by decide) rfl (Nat.le_of_ble_eq_true rfl) ?_
  intro pr en st mi ar bl me cd ls Q hx hb hml hown hts hG hP hl hD hS hret
  have hown : st.vm.findClass RX5 = some mi.cls := hown
  have hl : lv_has ls 6 [(0, .ref (m 0)), (1, .int (nI e)), (2, .int (nI i)), (3, .int (nI 2))] := hl
  have hP : va_P G.1 vwCl (wM G m σ V ζ ns x len B) st.heap := hP
  have hD : va_D (zA (wM G m σ V ζ ns x len B)) (wM G m σ V ζ ns x len B) := hD
  have hc := hO.c
  have hs := hO.lS
  have hr := hO.lR
  have hne := hO.lE
  have hve : 0 ≤ nI e ∧ nI e < nI (nE σ) := z_in he (by omega)
  have hvw : nI 0 ≤ nI 2 ∧ nI 2 ≤ nI 3 := by decide
  refine lv_aload_n hx hb dX5_quarrel_0 rfl (lv_at hl 0 rfl) ?_
  refine lv_iload_n hx hb dX5_quarrel_1 rfl (lv_at hl 1 rfl) ?_
  refine zrdV (As := [.int (nI e)]) ⟨hx, hb, hml, hown, hts⟩ (kX5_isEdge l G m σ V ζ ns x len B (nI e) (hO)) (cwV 1 hts gX5_quarrel_X5_isEdge rfl rfl rfl (by decide +kernel) ⟨Nat.le_of_ble_eq_true rfl, Nat.le_of_ble_eq_true rfl⟩) hG (va_recv (q0 := 0) (ci := 5) hG.1 hP rfl rfl) (hP) rfl rfl hl.1 dX5_quarrel_2 (Nat.le_of_ble_eq_true rfl) ⟨Nat.le_of_ble_eq_true rfl, Nat.le_of_ble_eq_true rfl⟩ ?_
  refine lv_if_eq (tgt := 21) hx hb dX5_quarrel_5 (by decide) (fun h5 => ?_) (fun h5 => ?_)
  · skip
    have h5 : ¬ (0 ≤ (nI e) ∧ (nI e) < nI (nE σ)) := (z_b0).mp h5
    exact absurd hve h5
  · skip
    have h5 : ¬ (¬ (0 ≤ (nI e) ∧ (nI e) < nI (nE σ))) := fun q => h5 ((z_b0).mpr q)
    have h5 : 0 ≤ (nI e) ∧ (nI e) < nI (nE σ) := Decidable.of_not_not h5
    refine lv_iload_n hx hb dX5_quarrel_8 rfl (lv_at hl 2 rfl) ?_
    refine lv_if_lt (tgt := 21) hx hb dX5_quarrel_9 (by decide) (fun h9 => ?_) (fun h9 => ?_)
    · skip
      have h9 : False := (z_lt0 (by omega)).mp h9
      exfalso; omega
    · skip
      have h9 : ¬ (False) := fun q => h9 ((z_lt0 (by omega)).mpr q)
      refine lv_iload_n hx hb dX5_quarrel_12 rfl (lv_at hl 3 rfl) ?_
      refine lv_iconst (v := nI 0) hx hb dX5_quarrel_13 (by decide) ?_
      refine lv_iconst (v := nI 3) hx hb dX5_quarrel_14 (by decide) ?_
      refine zrdS (As := [.int (nI 2), .int (nI 0), .int (nI 3)]) ⟨hx, hb, hml, hown, hts⟩ (kX5_in l G  (nI 2) (nI 0) (nI 3)) (va_cwS 3 hts gX5_quarrel_X5_in rfl rfl rfl (by decide +kernel) ⟨Nat.le_of_ble_eq_true rfl, Nat.le_of_ble_eq_true rfl⟩) hG (trivial) rfl rfl hl.1 dX5_quarrel_15 (Nat.le_of_ble_eq_true rfl) ⟨Nat.le_of_ble_eq_true rfl, Nat.le_of_ble_eq_true rfl⟩ ?_
      refine lv_if_ne (tgt := 23) hx hb dX5_quarrel_18 (by decide) (fun h18 => ?_) (fun h18 => ?_)
      · skip
        have h18 : ¬ (¬ ((nI 0) ≤ (nI 2) ∧ (nI 2) ≤ (nI 3))) := fun q => h18 ((z_b0).mpr q)
        have h18 : (nI 0) ≤ (nI 2) ∧ (nI 2) ≤ (nI 3) := Decidable.of_not_not h18
        refine lv_iload_n hx hb dX5_quarrel_23 rfl (lv_at hl 2 rfl) ?_
        refine lv_istore (lv' := [(4, .int (nI i)), (0, .ref (m 0)), (1, .int (nI e)), (2, .int (nI i)), (3, .int (nI 2))]) hx hb dX5_quarrel_24 hl (by decide) rfl (fun ls hl => ?_)
        refine lv_iconst (v := nI 0) hx hb dX5_quarrel_26 (by decide) ?_
        refine lv_istore (lv' := [(5, .int (nI 0)), (4, .int (nI i)), (0, .ref (m 0)), (1, .int (nI e)), (2, .int (nI i)), (3, .int (nI 2))]) hx hb dX5_quarrel_27 hl (by decide) rfl (fun ls hl => ?_)
        have loop29 : ∀ (n : Nat) (j : Nat) (b : Nat) (hb2 : b = qb σ e j) (hz : ∀ j2, j2 < j → decide (rsn σ e j2 ≠ 0 ∧ qb σ e j2 = i) = false) (hbi : b ≤ i) (hbj : b ≤ j) (hj : j ≤ 10) (hn : 10 < j + n) (ls : Array Slot) (hl : lv_has ls 6 [(0, .ref (m 0)), (1, .int (nI e)), (2, .int (nI i)), (3, .int (nI 2)), (4, .int (nI (i - b))), (5, .int (nI j))]) (H : Heap) (locs : List Loc) (hP : va_P G.1 vwCl (wM G m σ V ζ ns x len B) H) (hD : va_D (zA (wM G m σ V ζ ns x len B)) (wM G m σ V ζ ns x len B)) (hS : va_S (zA (wM G m σ V ζ ns x len B)) st.heap H locs), W pr l en (zRm 6 139) st mi ar bl me cd H locs 0 0 Q (F0 mi 29 ls []) := by
          intro n
          induction n with
          | zero => intro j b hb2 hz hbi hbj hj hn ls hl H locs hP hD hS; exfalso; omega
          | succ n ih29 =>
            intro j b hb2 hz hbi hbj hj hn ls hl H locs hP hD hS
            refine lv_iload hx hb dX5_quarrel_29 (lv_at hl 5 rfl) ?_
            refine lv_bipush (v := nI 10) hx hb dX5_quarrel_31 (by decide) ?_
            refine lv_icmp_ge (tgt := 69) hx hb dX5_quarrel_33 (by decide) (fun h33 => ?_) (fun h33 => ?_)
            · skip
              have h33 : 10 ≤ j := (nI_leI (by omega) (by omega)).mp h33
              exfalso; have hpq : pq σ e i = 10 := fst1_no (fun j2 hj2 => hz j2 (by omega)); omega
            · skip
              have h33 : ¬ (10 ≤ j) := fun q => h33 ((nI_leI (by omega) (by omega)).mpr q)
              refine lv_aload_n hx hb dX5_quarrel_36 rfl (lv_at hl 0 rfl) ?_
              refine lv_iload_n hx hb dX5_quarrel_37 rfl (lv_at hl 1 rfl) ?_
              refine lv_iload hx hb dX5_quarrel_38 (lv_at hl 5 rfl) ?_
              refine zrdV (As := [.int (nI e), .int (nI j)]) ⟨hx, hb, hml, hown, hts⟩ (kX5_reasonAt l G m σ V ζ ns x len B e j (hO) (by omega) (by omega)) (cwV 2 hts gX5_quarrel_X5_reasonAt rfl rfl rfl (by decide +kernel) ⟨Nat.le_of_ble_eq_true rfl, Nat.le_of_ble_eq_true rfl⟩) hG (va_recv (q0 := 0) (ci := 5) hG.1 hP rfl rfl) (hP) rfl rfl hl.1 dX5_quarrel_40 (Nat.le_of_ble_eq_true rfl) ⟨Nat.le_of_ble_eq_true rfl, Nat.le_of_ble_eq_true rfl⟩ ?_
              have hf40_0 := rsn_le σ (e) (j)
              refine lv_if_le (tgt := 63) hx hb dX5_quarrel_43 (by decide) (fun h43 => ?_) (fun h43 => ?_)
              · skip
                have h43 : (rsn σ e j) = 0 := (z_le0 (by omega)).mp h43
                refine lv_iinc (v := nI (j + 1)) (lv' := [(5, .int (nI (j + 1))), (0, .ref (m 0)), (1, .int (nI e)), (2, .int (nI i)), (3, .int (nI 2)), (4, .int (nI (i - b)))]) hx hb dX5_quarrel_63 hl (k := 5) rfl (zinc1 _) (by decide) rfl (fun ls hl => ?_)
                refine lv_goto (tgt := 29) hx hb dX5_quarrel_66 (by decide) ?_
                exact ih29 (j + 1) b (by show _ = qb σ e j + (if rsn σ e j = 0 then 0 else 1); rw [← hb2, if_pos (by omega)]; rfl) (fun j2 hj2 => by rcases Nat.lt_succ_iff_lt_or_eq.mp hj2 with z | z; exact hz j2 z; (rw [z]; exact decide_eq_false (fun y => by omega))) (by omega) (by omega) (by omega) (by omega) _ (lv_sub hl [1, 2, 3, 4, 5, 0] rfl) _ _ (hP) (hD) hS
              · skip
                have h43 : ¬ ((rsn σ e j) = 0) := fun q => h43 ((z_le0 (by omega)).mpr q)
                have h43 : 0 < (rsn σ e j) := Nat.pos_of_ne_zero h43
                refine lv_iload hx hb dX5_quarrel_46 (lv_at hl 4 rfl) ?_
                refine lv_if_ne (tgt := 60) hx hb dX5_quarrel_48 (by decide) (fun h48 => ?_) (fun h48 => ?_)
                · skip
                  have h48 : ¬ ((i - b) = 0) := fun q => h48 ((z_eq0 (by omega)).mpr q)
                  have h48 : 0 < (i - b) := Nat.pos_of_ne_zero h48
                  refine lv_iinc (v := nI (i - (b + 1))) (lv' := [(4, .int (nI (i - (b + 1)))), (0, .ref (m 0)), (1, .int (nI e)), (2, .int (nI i)), (3, .int (nI 2)), (5, .int (nI j))]) hx hb dX5_quarrel_60 hl (k := 4) rfl (zdec2 (by omega)) (by decide) rfl (fun ls hl => ?_)
                  refine lv_iinc (v := nI (j + 1)) (lv' := [(5, .int (nI (j + 1))), (4, .int (nI (i - (b + 1)))), (0, .ref (m 0)), (1, .int (nI e)), (2, .int (nI i)), (3, .int (nI 2))]) hx hb dX5_quarrel_63 hl (k := 5) rfl (zinc1 _) (by decide) rfl (fun ls hl => ?_)
                  refine lv_goto (tgt := 29) hx hb dX5_quarrel_66 (by decide) ?_
                  exact ih29 (j + 1) (b + 1) (by show _ = qb σ e j + (if rsn σ e j = 0 then 0 else 1); rw [← hb2, if_neg (by omega)]) (fun j2 hj2 => by rcases Nat.lt_succ_iff_lt_or_eq.mp hj2 with z | z; exact hz j2 z; (rw [z]; exact decide_eq_false (fun y => by omega))) (by omega) (by omega) (by omega) (by omega) _ (lv_sub hl [2, 3, 4, 5, 1, 0] rfl) _ _ (hP) (hD) hS
                · skip
                  have h48 : (i - b) = 0 := (z_eq0 (by omega)).mp h48
                  refine lv_aload_n hx hb dX5_quarrel_51 rfl (lv_at hl 0 rfl) ?_
                  refine lv_iload_n hx hb dX5_quarrel_52 rfl (lv_at hl 1 rfl) ?_
                  refine lv_iload hx hb dX5_quarrel_53 (lv_at hl 5 rfl) ?_
                  refine lv_iload_n hx hb dX5_quarrel_55 rfl (lv_at hl 3 rfl) ?_
                  refine zrdV (As := [.int (nI e), .int (nI j), .int (nI 2)]) ⟨hx, hb, hml, hown, hts⟩ (kX5_quarrelAt_2 l G m σ V ζ ns x len B e j (hO) (by omega) (by omega)) (cwV 3 hts gX5_quarrel_X5_quarrelAt rfl rfl rfl (by decide +kernel) ⟨Nat.le_of_ble_eq_true rfl, Nat.le_of_ble_eq_true rfl⟩) hG (va_recv (q0 := 0) (ci := 5) hG.1 hP rfl rfl) (hP) rfl rfl hl.1 dX5_quarrel_56 (Nat.le_of_ble_eq_true rfl) ⟨Nat.le_of_ble_eq_true rfl, Nat.le_of_ble_eq_true rfl⟩ ?_
                  have hpq : pq σ e i = j := fst1_at (by omega) hz (decide_eq_true ⟨by omega, by omega⟩)
                  exact hret _ _ _ _ _ dX5_quarrel_59 hS (hP) (by rw [hpq])
        exact loop29 11 0 0 (rfl) (fun j hj => absurd hj (Nat.not_lt_zero j)) (by omega) (by omega) (by omega) (by omega) _ (lv_sub hl [2, 3, 4, 5, 1, 0] rfl) _ _ (hP) (hD) hS
      · skip
        have h18 : ¬ ((nI 0) ≤ (nI 2) ∧ (nI 2) ≤ (nI 3)) := (z_b0).mp h18
        exact absurd hvw h18
set_option maxHeartbeats 4000000 in
set_option maxRecDepth 100000 in
theorem kX5_quarrel_none3 (l : Launch) (G : zG) (m : Nat → Nat) (σ : Nat → Nat) (V : Nat → Nat → Nat) (ζ : Nat → Nat) (ns : Nat) (x : Nat → Nat) (len : Nat) (B : Nat → Int32) {N : Nat} (e : Nat) (i : Nat) (hO : Ok N σ) (hns : ns ≤ 4) (he : e < nE σ) (hi31 : i < 2 ^ 31) (hq : pq σ e i = 10) (hd : va_D (fun _ => True) (wM G m σ V ζ ns x len B)) : Met l yX5_quarrel wsX5_quarrel (zRm 6 139) (zPc G [.ref (m 0), .int (nI e), .int (nI i), .int (nI 3)] (va_P G.1 vwCl (wM G m σ V ζ ns x len B))) (zQ (zA (wM G m σ V ζ ns x len B)) (some (.int ((-4)))) (va_P G.1 vwCl (wM G m σ V ζ ns x len B))) 0 0 (zA (wM G m σ V ζ ns x len B)) := by
  refine zmkWi (w := (wM G m σ V ζ ns x len B)) hd (cc := cX5_quarrel) (maxL := 6) (by decide) rfl (Nat.le_of_ble_eq_true rfl) ?_
  intro pr en st mi ar bl me cd ls Q hx hb hml hown hts hG hP hl hD hS hret
  have hown : st.vm.findClass RX5 = some mi.cls := hown
  have hl : lv_has ls 6 [(0, .ref (m 0)), (1, .int (nI e)), (2, .int (nI i)), (3, .int (nI 3))] := hl
  have hP : va_P G.1 vwCl (wM G m σ V ζ ns x len B) st.heap := hP
  have hD : va_D (zA (wM G m σ V ζ ns x len B)) (wM G m σ V ζ ns x len B) := hD
  have hc := hO.c
  have hs := hO.lS
  have hr := hO.lR
  have hne := hO.lE
  have hve : 0 ≤ nI e ∧ nI e < nI (nE σ) := z_in he (by omega)
  have hvw : nI 0 ≤ nI 3 ∧ nI 3 ≤ nI 3 := by decide
  refine lv_aload_n hx hb dX5_quarrel_0 rfl (lv_at hl 0 rfl) ?_
  refine lv_iload_n hx hb dX5_quarrel_1 rfl (lv_at hl 1 rfl) ?_
  refine zrdV (As := [.int (nI e)]) ⟨hx, hb, hml, hown, hts⟩ (kX5_isEdge l G m σ V ζ ns x len B (nI e) (hO)) (cwV 1 hts gX5_quarrel_X5_isEdge rfl rfl rfl (by decide +kernel) ⟨Nat.le_of_ble_eq_true rfl, Nat.le_of_ble_eq_true rfl⟩) hG (va_recv (q0 := 0) (ci := 5) hG.1 hP rfl rfl) (hP) rfl rfl hl.1 dX5_quarrel_2 (Nat.le_of_ble_eq_true rfl) ⟨Nat.le_of_ble_eq_true rfl, Nat.le_of_ble_eq_true rfl⟩ ?_
  refine lv_if_eq (tgt := 21) hx hb dX5_quarrel_5 (by decide) (fun h5 => ?_) (fun h5 => ?_)
  · skip
    have h5 : ¬ (0 ≤ (nI e) ∧ (nI e) < nI (nE σ)) := (z_b0).mp h5
    exact absurd hve h5
  · skip
    have h5 : ¬ (¬ (0 ≤ (nI e) ∧ (nI e) < nI (nE σ))) := fun q => h5 ((z_b0).mpr q)
    have h5 : 0 ≤ (nI e) ∧ (nI e) < nI (nE σ) := Decidable.of_not_not h5
    refine lv_iload_n hx hb dX5_quarrel_8 rfl (lv_at hl 2 rfl) ?_
    refine lv_if_lt (tgt := 21) hx hb dX5_quarrel_9 (by decide) (fun h9 => ?_) (fun h9 => ?_)
    · skip
      have h9 : False := (z_lt0 (by omega)).mp h9
      exfalso; omega
    · skip
      have h9 : ¬ (False) := fun q => h9 ((z_lt0 (by omega)).mpr q)
      refine lv_iload_n hx hb dX5_quarrel_12 rfl (lv_at hl 3 rfl) ?_
      refine lv_iconst (v := nI 0) hx hb dX5_quarrel_13 (by decide) ?_
      refine lv_iconst (v := nI 3) hx hb dX5_quarrel_14 (by decide) ?_
      refine zrdS (As := [.int (nI 3), .int (nI 0), .int (nI 3)]) ⟨hx, hb, hml, hown, hts⟩ (kX5_in l G  (nI 3) (nI 0) (nI 3)) (va_cwS 3 hts gX5_quarrel_X5_in rfl rfl rfl (by decide +kernel) ⟨Nat.le_of_ble_eq_true rfl, Nat.le_of_ble_eq_true rfl⟩) hG (trivial) rfl rfl hl.1 dX5_quarrel_15 (Nat.le_of_ble_eq_true rfl) ⟨Nat.le_of_ble_eq_true rfl, Nat.le_of_ble_eq_true rfl⟩ ?_
      refine lv_if_ne (tgt := 23) hx hb dX5_quarrel_18 (by decide) (fun h18 => ?_) (fun h18 => ?_)
      · skip
        have h18 : ¬ (¬ ((nI 0) ≤ (nI 3) ∧ (nI 3) ≤ (nI 3))) := fun q => h18 ((z_b0).mpr q)
        have h18 : (nI 0) ≤ (nI 3) ∧ (nI 3) ≤ (nI 3) := Decidable.of_not_not h18
        refine lv_iload_n hx hb dX5_quarrel_23 rfl (lv_at hl 2 rfl) ?_
        refine lv_istore (lv' := [(4, .int (nI i)), (0, .ref (m 0)), (1, .int (nI e)), (2, .int (nI i)), (3, .int (nI 3))]) hx hb dX5_quarrel_24 hl (by decide) rfl (fun ls hl => ?_)
        refine lv_iconst (v := nI 0) hx hb dX5_quarrel_26 (by decide) ?_
        refine lv_istore (lv' := [(5, .int (nI 0)), (4, .int (nI i)), (0, .ref (m 0)), (1, .int (nI e)), (2, .int (nI i)), (3, .int (nI 3))]) hx hb dX5_quarrel_27 hl (by decide) rfl (fun ls hl => ?_)
        have loop29 : ∀ (n : Nat) (j : Nat) (b : Nat) (hb2 : b = qb σ e j) (hz : ∀ j2, j2 < j → decide (rsn σ e j2 ≠ 0 ∧ qb σ e j2 = i) = false) (hbi : b ≤ i) (hbj : b ≤ j) (hj : j ≤ 10) (hn : 10 < j + n) (ls : Array Slot) (hl : lv_has ls 6 [(0, .ref (m 0)), (1, .int (nI e)), (2, .int (nI i)), (3, .int (nI 3)), (4, .int (nI (i - b))), (5, .int (nI j))]) (H : Heap) (locs : List Loc) (hP : va_P G.1 vwCl (wM G m σ V ζ ns x len B) H) (hD : va_D (zA (wM G m σ V ζ ns x len B)) (wM G m σ V ζ ns x len B)) (hS : va_S (zA (wM G m σ V ζ ns x len B)) st.heap H locs), W pr l en (zRm 6 139) st mi ar bl me cd H locs 0 0 Q (F0 mi 29 ls []) := by
          intro n
          induction n with
          | zero => intro j b hb2 hz hbi hbj hj hn ls hl H locs hP hD hS; exfalso; omega
          | succ n ih29 =>
            intro j b hb2 hz hbi hbj hj hn ls hl H locs hP hD hS
            refine lv_iload hx hb dX5_quarrel_29 (lv_at hl 5 rfl) ?_
            refine lv_bipush (v := nI 10) hx hb dX5_quarrel_31 (by decide) ?_
            refine lv_icmp_ge (tgt := 69) hx hb dX5_quarrel_33 (by decide) (fun h33 => ?_) (fun h33 => ?_)
            · skip
              have h33 : 10 ≤ j := (nI_leI (by omega) (by omega)).mp h33
              refine lv_bipush (v := (-4)) hx hb dX5_quarrel_69 (by decide) ?_
              exact hret _ _ _ _ _ dX5_quarrel_71 hS (hP) (rfl)
            · skip
              have h33 : ¬ (10 ≤ j) := fun q => h33 ((nI_leI (by omega) (by omega)).mpr q)
              refine lv_aload_n hx hb dX5_quarrel_36 rfl (lv_at hl 0 rfl) ?_
              refine lv_iload_n hx hb dX5_quarrel_37 rfl (lv_at hl 1 rfl) ?_
              refine lv_iload hx hb dX5_quarrel_38 (lv_at hl 5 rfl) ?_
              refine zrdV (As := [.int (nI e), .int (nI j)]) ⟨hx, hb, hml, hown, hts⟩ (kX5_reasonAt l G m σ V ζ ns x len B e j (hO) (by omega) (by omega)) (cwV 2 hts gX5_quarrel_X5_reasonAt rfl rfl rfl (by decide +kernel) ⟨Nat.le_of_ble_eq_true rfl, Nat.le_of_ble_eq_true rfl⟩) hG (va_recv (q0 := 0) (ci := 5) hG.1 hP rfl rfl) (hP) rfl rfl hl.1 dX5_quarrel_40 (Nat.le_of_ble_eq_true rfl) ⟨Nat.le_of_ble_eq_true rfl, Nat.le_of_ble_eq_true rfl⟩ ?_
              have hf40_0 := rsn_le σ (e) (j)
              refine lv_if_le (tgt := 63) hx hb dX5_quarrel_43 (by decide) (fun h43 => ?_) (fun h43 => ?_)
              · skip
                have h43 : (rsn σ e j) = 0 := (z_le0 (by omega)).mp h43
                refine lv_iinc (v := nI (j + 1)) (lv' := [(5, .int (nI (j + 1))), (0, .ref (m 0)), (1, .int (nI e)), (2, .int (nI i)), (3, .int (nI 3)), (4, .int (nI (i - b)))]) hx hb dX5_quarrel_63 hl (k := 5) rfl (zinc1 _) (by decide) rfl (fun ls hl => ?_)
                refine lv_goto (tgt := 29) hx hb dX5_quarrel_66 (by decide) ?_
                exact ih29 (j + 1) b (by show _ = qb σ e j + (if rsn σ e j = 0 then 0 else 1); rw [← hb2, if_pos (by omega)]; rfl) (fun j2 hj2 => by rcases Nat.lt_succ_iff_lt_or_eq.mp hj2 with z | z; exact hz j2 z; (rw [z]; exact decide_eq_false (fun y => by omega))) (by omega) (by omega) (by omega) (by omega) _ (lv_sub hl [1, 2, 3, 4, 5, 0] rfl) _ _ (hP) (hD) hS
              · skip
                have h43 : ¬ ((rsn σ e j) = 0) := fun q => h43 ((z_le0 (by omega)).mpr q)
                have h43 : 0 < (rsn σ e j) := Nat.pos_of_ne_zero h43
                refine lv_iload hx hb dX5_quarrel_46 (lv_at hl 4 rfl) ?_
                refine lv_if_ne (tgt := 60) hx hb dX5_quarrel_48 (by decide) (fun h48 => ?_) (fun h48 => ?_)
                · skip
                  have h48 : ¬ ((i - b) = 0) := fun q => h48 ((z_eq0 (by omega)).mpr q)
                  have h48 : 0 < (i - b) := Nat.pos_of_ne_zero h48
                  refine lv_iinc (v := nI (i - (b + 1))) (lv' := [(4, .int (nI (i - (b + 1)))), (0, .ref (m 0)), (1, .int (nI e)), (2, .int (nI i)), (3, .int (nI 3)), (5, .int (nI j))]) hx hb dX5_quarrel_60 hl (k := 4) rfl (zdec2 (by omega)) (by decide) rfl (fun ls hl => ?_)
                  refine lv_iinc (v := nI (j + 1)) (lv' := [(5, .int (nI (j + 1))), (4, .int (nI (i - (b + 1)))), (0, .ref (m 0)), (1, .int (nI e)), (2, .int (nI i)), (3, .int (nI 3))]) hx hb dX5_quarrel_63 hl (k := 5) rfl (zinc1 _) (by decide) rfl (fun ls hl => ?_)
                  refine lv_goto (tgt := 29) hx hb dX5_quarrel_66 (by decide) ?_
                  exact ih29 (j + 1) (b + 1) (by show _ = qb σ e j + (if rsn σ e j = 0 then 0 else 1); rw [← hb2, if_neg (by omega)]) (fun j2 hj2 => by rcases Nat.lt_succ_iff_lt_or_eq.mp hj2 with z | z; exact hz j2 z; (rw [z]; exact decide_eq_false (fun y => by omega))) (by omega) (by omega) (by omega) (by omega) _ (lv_sub hl [2, 3, 4, 5, 1, 0] rfl) _ _ (hP) (hD) hS
                · skip
                  have h48 : (i - b) = 0 := (z_eq0 (by omega)).mp h48
                  exfalso; have hpq : pq σ e i = j := fst1_at (by omega) hz (decide_eq_true ⟨by omega, by omega⟩); omega
        exact loop29 11 0 0 (rfl) (fun j hj => absurd hj (Nat.not_lt_zero j)) (by omega) (by omega) (by omega) (by omega) _ (lv_sub hl [2, 3, 4, 5, 1, 0] rfl) _ _ (hP) (hD) hS
      · skip
        have h18 : ¬ ((nI 0) ≤ (nI 3) ∧ (nI 3) ≤ (nI 3)) := (z_b0).mp h18
        exact absurd hvw h18
set_option maxHeartbeats 4000000 in
set_option maxRecDepth 100000 in
theorem kX5_quarrel_3 (l : Launch) (G : zG) (m : Nat → Nat) (σ : Nat → Nat) (V : Nat → Nat → Nat) (ζ : Nat → Nat) (ns : Nat) (x : Nat → Nat) (len : Nat) (B : Nat → Int32) {N : Nat} (e : Nat) (i : Nat) (hO : Ok N σ) (hns : ns ≤ 4) (he : e < nE σ) (hi31 : i < 2 ^ 31) (hq : pq σ e i ≠ 10) (hd : va_D (fun _ => True) (wM G m σ V ζ ns x len B)) : Met l yX5_quarrel wsX5_quarrel (zRm 6 139) (zPc G [.ref (m 0), .int (nI e), .int (nI i), .int (nI 3)] (va_P G.1 vwCl (wM G m σ V ζ ns x len B))) (zQ (zA (wM G m σ V ζ ns x len B)) (some (.int (zc 10 (mns σ (sS σ e) (sD σ e) (pq σ e i))))) (va_P G.1 vwCl (wM G m σ V ζ ns x len B))) 0 0 (zA (wM G m σ V ζ ns x len B)) := by
  refine zmkWi (w := (wM G m σ V ζ ns x len B)) hd (cc := cX5_quarrel) (maxL := 6) (by decide) rfl (Nat.le_of_ble_eq_true rfl) ?_
  intro pr en st mi ar bl me cd ls Q hx hb hml hown hts hG hP hl hD hS hret
  have hown : st.vm.findClass RX5 = some mi.cls := hown
  have hl : lv_has ls 6 [(0, .ref (m 0)), (1, .int (nI e)), (2, .int (nI i)), (3, .int (nI 3))] := hl
  have hP : va_P G.1 vwCl (wM G m σ V ζ ns x len B) st.heap := hP
  have hD : va_D (zA (wM G m σ V ζ ns x len B)) (wM G m σ V ζ ns x len B) := hD
  have hc := hO.c
  have hs := hO.lS
  have hr := hO.lR
  have hne := hO.lE
  have hve : 0 ≤ nI e ∧ nI e < nI (nE σ) := z_in he (by omega)
  have hvw : nI 0 ≤ nI 3 ∧ nI 3 ≤ nI 3 := by decide
  refine lv_aload_n hx hb dX5_quarrel_0 rfl (lv_at hl 0 rfl) ?_
  refine lv_iload_n hx hb dX5_quarrel_1 rfl (lv_at hl 1 rfl) ?_
  refine zrdV (As := [.int (nI e)]) ⟨hx, hb, hml, hown, hts⟩ (kX5_isEdge l G m σ V ζ ns x len B (nI e) (hO)) (cwV 1 hts gX5_quarrel_X5_isEdge rfl rfl rfl (by decide +kernel) ⟨Nat.le_of_ble_eq_true rfl, Nat.le_of_ble_eq_true rfl⟩) hG (va_recv (q0 := 0) (ci := 5) hG.1 hP rfl rfl) (hP) rfl rfl hl.1 dX5_quarrel_2 (Nat.le_of_ble_eq_true rfl) ⟨Nat.le_of_ble_eq_true rfl, Nat.le_of_ble_eq_true rfl⟩ ?_
  refine lv_if_eq (tgt := 21) hx hb dX5_quarrel_5 (by decide) (fun h5 => ?_) (fun h5 => ?_)
  · skip
    have h5 : ¬ (0 ≤ (nI e) ∧ (nI e) < nI (nE σ)) := (z_b0).mp h5
    exact absurd hve h5
  · skip
    have h5 : ¬ (¬ (0 ≤ (nI e) ∧ (nI e) < nI (nE σ))) := fun q => h5 ((z_b0).mpr q)
    have h5 : 0 ≤ (nI e) ∧ (nI e) < nI (nE σ) := Decidable.of_not_not h5
    refine lv_iload_n hx hb dX5_quarrel_8 rfl (lv_at hl 2 rfl) ?_
    refine lv_if_lt (tgt := 21) hx hb dX5_quarrel_9 (by decide) (fun h9 => ?_) (fun h9 => ?_)
    · skip
      have h9 : False := (z_lt0 (by omega)).mp h9
      exfalso; omega
    · skip
      have h9 : ¬ (False) := fun q => h9 ((z_lt0 (by omega)).mpr q)
      refine lv_iload_n hx hb dX5_quarrel_12 rfl (lv_at hl 3 rfl) ?_
      refine lv_iconst (v := nI 0) hx hb dX5_quarrel_13 (by decide) ?_
      refine lv_iconst (v := nI 3) hx hb dX5_quarrel_14 (by decide) ?_
      refine zrdS (As := [.int (nI 3), .int (nI 0), .int (nI 3)]) ⟨hx, hb, hml, hown, hts⟩ (kX5_in l G  (nI 3) (nI 0) (nI 3)) (va_cwS 3 hts gX5_quarrel_X5_in rfl rfl rfl (by decide +kernel) ⟨Nat.le_of_ble_eq_true rfl, Nat.le_of_ble_eq_true rfl⟩) hG (trivial) rfl rfl hl.1 dX5_quarrel_15 (Nat.le_of_ble_eq_true rfl) ⟨Nat.le_of_ble_eq_true rfl, Nat.le_of_ble_eq_true rfl⟩ ?_
      refine lv_if_ne (tgt := 23) hx hb dX5_quarrel_18 (by decide) (fun h18 => ?_) (fun h18 => ?_)
      · skip
        have h18 : ¬ (¬ ((nI 0) ≤ (nI 3) ∧ (nI 3) ≤ (nI 3))) := fun q => h18 ((z_b0).mpr q)
        have h18 : (nI 0) ≤ (nI 3) ∧ (nI 3) ≤ (nI 3) := Decidable.of_not_not h18
        refine lv_iload_n hx hb dX5_quarrel_23 rfl (lv_at hl 2 rfl) ?_
        refine lv_istore (lv' := [(4, .int (nI i)), (0, .ref (m 0)), (1, .int (nI e)), (2, .int (nI i)), (3, .int (nI 3))]) hx hb dX5_quarrel_24 hl (by decide) rfl (fun ls hl => ?_)
        refine lv_iconst (v := nI 0) hx hb dX5_quarrel_26 (by decide) ?_
        refine lv_istore (lv' := [(5, .int (nI 0)), (4, .int (nI i)), (0, .ref (m 0)), (1, .int (nI e)), (2, .int (nI i)), (3, .int (nI 3))]) hx hb dX5_quarrel_27 hl (by decide) rfl (fun ls hl => ?_)
        have loop29 : ∀ (n : Nat) (j : Nat) (b : Nat) (hb2 : b = qb σ e j) (hz : ∀ j2, j2 < j → decide (rsn σ e j2 ≠ 0 ∧ qb σ e j2 = i) = false) (hbi : b ≤ i) (hbj : b ≤ j) (hj : j ≤ 10) (hn : 10 < j + n) (ls : Array Slot) (hl : lv_has ls 6 [(0, .ref (m 0)), (1, .int (nI e)), (2, .int (nI i)), (3, .int (nI 3)), (4, .int (nI (i - b))), (5, .int (nI j))]) (H : Heap) (locs : List Loc) (hP : va_P G.1 vwCl (wM G m σ V ζ ns x len B) H) (hD : va_D (zA (wM G m σ V ζ ns x len B)) (wM G m σ V ζ ns x len B)) (hS : va_S (zA (wM G m σ V ζ ns x len B)) st.heap H locs), W pr l en (zRm 6 139) st mi ar bl me cd H locs 0 0 Q (F0 mi 29 ls []) := by
          intro n
          induction n with
          | zero => intro j b hb2 hz hbi hbj hj hn ls hl H locs hP hD hS; exfalso; omega
          | succ n ih29 =>
            intro j b hb2 hz hbi hbj hj hn ls hl H locs hP hD hS
            refine lv_iload hx hb dX5_quarrel_29 (lv_at hl 5 rfl) ?_
            refine lv_bipush (v := nI 10) hx hb dX5_quarrel_31 (by decide) ?_
            refine lv_icmp_ge (tgt := 69) hx hb dX5_quarrel_33 (by decide) (fun h33 => ?_) (fun h33 => ?_)
            · skip
              have h33 : 10 ≤ j := (nI_leI (by omega) (by omega)).mp h33
              exfalso; have hpq : pq σ e i = 10 := fst1_no (fun j2 hj2 => hz j2 (by omega)); omega
            · skip
              have h33 : ¬ (10 ≤ j) := fun q => h33 ((nI_leI (by omega) (by omega)).mpr q)
              refine lv_aload_n hx hb dX5_quarrel_36 rfl (lv_at hl 0 rfl) ?_
              refine lv_iload_n hx hb dX5_quarrel_37 rfl (lv_at hl 1 rfl) ?_
              refine lv_iload hx hb dX5_quarrel_38 (lv_at hl 5 rfl) ?_
              refine zrdV (As := [.int (nI e), .int (nI j)]) ⟨hx, hb, hml, hown, hts⟩ (kX5_reasonAt l G m σ V ζ ns x len B e j (hO) (by omega) (by omega)) (cwV 2 hts gX5_quarrel_X5_reasonAt rfl rfl rfl (by decide +kernel) ⟨Nat.le_of_ble_eq_true rfl, Nat.le_of_ble_eq_true rfl⟩) hG (va_recv (q0 := 0) (ci := 5) hG.1 hP rfl rfl) (hP) rfl rfl hl.1 dX5_quarrel_40 (Nat.le_of_ble_eq_true rfl) ⟨Nat.le_of_ble_eq_true rfl, Nat.le_of_ble_eq_true rfl⟩ ?_
              have hf40_0 := rsn_le σ (e) (j)
              refine lv_if_le (tgt := 63) hx hb dX5_quarrel_43 (by decide) (fun h43 => ?_) (fun h43 => ?_)
              · skip
                have h43 : (rsn σ e j) = 0 := (z_le0 (by omega)).mp h43
                refine lv_iinc (v := nI (j + 1)) (lv' := [(5, .int (nI (j + 1))), (0, .ref (m 0)), (1, .int (nI e)), (2, .int (nI i)), (3, .int (nI 3)), (4, .int (nI (i - b)))]) hx hb dX5_quarrel_63 hl (k := 5) rfl (zinc1 _) (by decide) rfl (fun ls hl => ?_)
                refine lv_goto (tgt := 29) hx hb dX5_quarrel_66 (by decide) ?_
                exact ih29 (j + 1) b (by show _ = qb σ e j + (if rsn σ e j = 0 then 0 else 1); rw [← hb2, if_pos (by omega)]; rfl) (fun j2 hj2 => by rcases Nat.lt_succ_iff_lt_or_eq.mp hj2 with z | z; exact hz j2 z; (rw [z]; exact decide_eq_false (fun y => by omega))) (by omega) (by omega) (by omega) (by omega) _ (lv_sub hl [1, 2, 3, 4, 5, 0] rfl) _ _ (hP) (hD) hS
              · skip
                have h43 : ¬ ((rsn σ e j) = 0) := fun q => h43 ((z_le0 (by omega)).mpr q)
                have h43 : 0 < (rsn σ e j) := Nat.pos_of_ne_zero h43
                refine lv_iload hx hb dX5_quarrel_46 (lv_at hl 4 rfl) ?_
                refine lv_if_ne (tgt := 60) hx hb dX5_quarrel_48 (by decide) (fun h48 => ?_) (fun h48 => ?_)
                · skip
                  have h48 : ¬ ((i - b) = 0) := fun q => h48 ((z_eq0 (by omega)).mpr q)
                  have h48 : 0 < (i - b) := Nat.pos_of_ne_zero h48
                  refine lv_iinc (v := nI (i - (b + 1))) (lv' := [(4, .int (nI (i - (b + 1)))), (0, .ref (m 0)), (1, .int (nI e)), (2, .int (nI i)), (3, .int (nI 3)), (5, .int (nI j))]) hx hb dX5_quarrel_60 hl (k := 4) rfl (zdec2 (by omega)) (by decide) rfl (fun ls hl => ?_)
                  refine lv_iinc (v := nI (j + 1)) (lv' := [(5, .int (nI (j + 1))), (4, .int (nI (i - (b + 1)))), (0, .ref (m 0)), (1, .int (nI e)), (2, .int (nI i)), (3, .int (nI 3))]) hx hb dX5_quarrel_63 hl (k := 5) rfl (zinc1 _) (by decide) rfl (fun ls hl => ?_)
                  refine lv_goto (tgt := 29) hx hb dX5_quarrel_66 (by decide) ?_
                  exact ih29 (j + 1) (b + 1) (by show _ = qb σ e j + (if rsn σ e j = 0 then 0 else 1); rw [← hb2, if_neg (by omega)]) (fun j2 hj2 => by rcases Nat.lt_succ_iff_lt_or_eq.mp hj2 with z | z; exact hz j2 z; (rw [z]; exact decide_eq_false (fun y => by omega))) (by omega) (by omega) (by omega) (by omega) _ (lv_sub hl [2, 3, 4, 5, 1, 0] rfl) _ _ (hP) (hD) hS
                · skip
                  have h48 : (i - b) = 0 := (z_eq0 (by omega)).mp h48
                  refine lv_aload_n hx hb dX5_quarrel_51 rfl (lv_at hl 0 rfl) ?_
                  refine lv_iload_n hx hb dX5_quarrel_52 rfl (lv_at hl 1 rfl) ?_
                  refine lv_iload hx hb dX5_quarrel_53 (lv_at hl 5 rfl) ?_
                  refine lv_iload_n hx hb dX5_quarrel_55 rfl (lv_at hl 3 rfl) ?_
                  refine zrdV (As := [.int (nI e), .int (nI j), .int (nI 3)]) ⟨hx, hb, hml, hown, hts⟩ (kX5_quarrelAt_3 l G m σ V ζ ns x len B e j (hO) (by omega) (by omega)) (cwV 3 hts gX5_quarrel_X5_quarrelAt rfl rfl rfl (by decide +kernel) ⟨Nat.le_of_ble_eq_true rfl, Nat.le_of_ble_eq_true rfl⟩) hG (va_recv (q0 := 0) (ci := 5) hG.1 hP rfl rfl) (hP) rfl rfl hl.1 dX5_quarrel_56 (Nat.le_of_ble_eq_true rfl) ⟨Nat.le_of_ble_eq_true rfl, Nat.le_of_ble_eq_true rfl⟩ ?_
                  have hpq : pq σ e i = j := fst1_at (by omega) hz (decide_eq_true ⟨by omega, by omega⟩)
                  exact hret _ _ _ _ _ dX5_quarrel_59 hS (hP) (by rw [hpq])
        exact loop29 11 0 0 (rfl) (fun j hj => absurd hj (Nat.not_lt_zero j)) (by omega) (by omega) (by omega) (by omega) _ (lv_sub hl [2, 3, 4, 5, 1, 0] rfl) _ _ (hP) (hD) hS
      · skip
        have h18 : ¬ ((nI 0) ≤ (nI 3) ∧ (nI 3) ≤ (nI 3)) := (z_b0).mp h18
        exact absurd hvw h18
set_option maxHeartbeats 4000000 in
set_option maxRecDepth 100000 in
theorem kX5_agree_inv (l : Launch) (G : zG) (m : Nat → Nat) (σ : Nat → Nat) (V : Nat → Nat → Nat) (ζ : Nat → Nat) (ns : Nat) (x : Nat → Nat) (len : Nat) (B : Nat → Int32) {N : Nat} (x1 : Int32) (hO : Ok N σ) (hns : ns ≤ 4) (hv : ¬ (0 ≤ x1 ∧ x1 < nI (nE σ))) (hd : va_D (fun _ => True) (wM G m σ V ζ ns x len B)) : Met l yX5_agree wsX5_agree (zRm 6 138) (zPc G [.ref (m 0), .int x1] (va_P G.1 vwCl (wM G m σ V ζ ns x len B))) (zQ (zA (wM G m σ V ζ ns x len B)) (some (.int ((-1)))) (va_P G.1 vwCl (wM G m σ V ζ ns x len B))) 0 0 (zA (wM G m σ V ζ ns x len B)) := by
  refine zmkWi (w := (wM G m σ V ζ ns x len B)) hd (cc := cX5_agree) (maxL := 3) (by decide) rfl (Nat.le_of_ble_eq_true rfl) ?_
  intro pr en st mi ar bl me cd ls Q hx hb hml hown hts hG hP hl hD hS hret
  have hown : st.vm.findClass RX5 = some mi.cls := hown
  have hl : lv_has ls 3 [(0, .ref (m 0)), (1, .int x1)] := hl
  have hP : va_P G.1 vwCl (wM G m σ V ζ ns x len B) st.heap := hP
  have hD : va_D (zA (wM G m σ V ζ ns x len B)) (wM G m σ V ζ ns x len B) := hD
  have hc := hO.c
  have hs := hO.lS
  have hr := hO.lR
  have hne := hO.lE
  refine lv_aload_n hx hb dX5_agree_0 rfl (lv_at hl 0 rfl) ?_
  refine lv_iload_n hx hb dX5_agree_1 rfl (lv_at hl 1 rfl) ?_
  refine zrdV (As := [.int x1]) ⟨hx, hb, hml, hown, hts⟩ (kX5_isEdge l G m σ V ζ ns x len B x1 (hO)) (cwV 1 hts gX5_agree_X5_isEdge rfl rfl rfl (by decide +kernel) ⟨Nat.le_of_ble_eq_true rfl, Nat.le_of_ble_eq_true rfl⟩) hG (va_recv (q0 := 0) (ci := 5) hG.1 hP rfl rfl) (hP) rfl rfl hl.1 dX5_agree_2 (Nat.le_of_ble_eq_true rfl) ⟨Nat.le_of_ble_eq_true rfl, Nat.le_of_ble_eq_true rfl⟩ ?_
  refine lv_if_ne (tgt := 10) hx hb dX5_agree_5 (by decide) (fun h5 => ?_) (fun h5 => ?_)
  · skip
    have h5 : ¬ (¬ (0 ≤ x1 ∧ x1 < nI (nE σ))) := fun q => h5 ((z_b0).mpr q)
    have h5 : 0 ≤ x1 ∧ x1 < nI (nE σ) := Decidable.of_not_not h5
    exact absurd h5 hv
  · skip
    have h5 : ¬ (0 ≤ x1 ∧ x1 < nI (nE σ)) := (z_b0).mp h5
    refine lv_iconst (v := (-1)) hx hb dX5_agree_8 (by decide) ?_
    exact hret _ _ _ _ _ dX5_agree_9 hS (hP) (rfl)
set_option maxHeartbeats 4000000 in
set_option maxRecDepth 100000 in
theorem kX5_agree_no (l : Launch) (G : zG) (m : Nat → Nat) (σ : Nat → Nat) (V : Nat → Nat → Nat) (ζ : Nat → Nat) (ns : Nat) (x : Nat → Nat) (len : Nat) (B : Nat → Int32) {N : Nat} (e : Nat) (hO : Ok N σ) (hns : ns ≤ 4) (he : e < nE σ) (hq : 0 < qrl σ e) (hd : va_D (fun _ => True) (wM G m σ V ζ ns x len B)) : Met l yX5_agree wsX5_agree (zRm 6 138) (zPc G [.ref (m 0), .int (nI e)] (va_P G.1 vwCl (wM G m σ V ζ ns x len B))) (zQ (zA (wM G m σ V ζ ns x len B)) (some (.int ((-2)))) (va_P G.1 vwCl (wM G m σ V ζ ns x len B))) 0 0 (zA (wM G m σ V ζ ns x len B)) := by
  refine zmkWi (w := (wM G m σ V ζ ns x len B)) hd (cc := cX5_agree) (maxL := 3) (by decide) rfl (Nat.le_of_ble_eq_true rfl) ?_
  intro pr en st mi ar bl me cd ls Q hx hb hml hown hts hG hP hl hD hS hret
  have hown : st.vm.findClass RX5 = some mi.cls := hown
  have hl : lv_has ls 3 [(0, .ref (m 0)), (1, .int (nI e))] := hl
  have hP : va_P G.1 vwCl (wM G m σ V ζ ns x len B) st.heap := hP
  have hD : va_D (zA (wM G m σ V ζ ns x len B)) (wM G m σ V ζ ns x len B) := hD
  have hc := hO.c
  have hs := hO.lS
  have hr := hO.lR
  have hne := hO.lE
  have hve : 0 ≤ nI e ∧ nI e < nI (nE σ) := z_in he (by omega)
  refine lv_aload_n hx hb dX5_agree_0 rfl (lv_at hl 0 rfl) ?_
  refine lv_iload_n hx hb dX5_agree_1 rfl (lv_at hl 1 rfl) ?_
  refine zrdV (As := [.int (nI e)]) ⟨hx, hb, hml, hown, hts⟩ (kX5_isEdge l G m σ V ζ ns x len B (nI e) (hO)) (cwV 1 hts gX5_agree_X5_isEdge rfl rfl rfl (by decide +kernel) ⟨Nat.le_of_ble_eq_true rfl, Nat.le_of_ble_eq_true rfl⟩) hG (va_recv (q0 := 0) (ci := 5) hG.1 hP rfl rfl) (hP) rfl rfl hl.1 dX5_agree_2 (Nat.le_of_ble_eq_true rfl) ⟨Nat.le_of_ble_eq_true rfl, Nat.le_of_ble_eq_true rfl⟩ ?_
  refine lv_if_ne (tgt := 10) hx hb dX5_agree_5 (by decide) (fun h5 => ?_) (fun h5 => ?_)
  · skip
    have h5 : ¬ (¬ (0 ≤ (nI e) ∧ (nI e) < nI (nE σ))) := fun q => h5 ((z_b0).mpr q)
    have h5 : 0 ≤ (nI e) ∧ (nI e) < nI (nE σ) := Decidable.of_not_not h5
    refine lv_aload_n hx hb dX5_agree_10 rfl (lv_at hl 0 rfl) ?_
    refine lv_iload_n hx hb dX5_agree_11 rfl (lv_at hl 1 rfl) ?_
    refine zrdV (As := [.int (nI e)]) ⟨hx, hb, hml, hown, hts⟩ (kX5_quarrels l G m σ V ζ ns x len B e (hO) (by omega)) (cwV 1 hts gX5_agree_X5_quarrels rfl rfl rfl (by decide +kernel) ⟨Nat.le_of_ble_eq_true rfl, Nat.le_of_ble_eq_true rfl⟩) hG (va_recv (q0 := 0) (ci := 5) hG.1 hP rfl rfl) (hP) rfl rfl hl.1 dX5_agree_12 (Nat.le_of_ble_eq_true rfl) ⟨Nat.le_of_ble_eq_true rfl, Nat.le_of_ble_eq_true rfl⟩ ?_
    have hf12_0 := qrl_le σ (e)
    refine lv_if_le (tgt := 21) hx hb dX5_agree_15 (by decide) (fun h15 => ?_) (fun h15 => ?_)
    · skip
      have h15 : (qrl σ e) = 0 := (z_le0 (by omega)).mp h15
      exfalso; omega
    · skip
      have h15 : ¬ ((qrl σ e) = 0) := fun q => h15 ((z_le0 (by omega)).mpr q)
      have h15 : 0 < (qrl σ e) := Nat.pos_of_ne_zero h15
      refine lv_bipush (v := (-2)) hx hb dX5_agree_18 (by decide) ?_
      exact hret _ _ _ _ _ dX5_agree_20 hS (hP) (rfl)
  · skip
    have h5 : ¬ (0 ≤ (nI e) ∧ (nI e) < nI (nE σ)) := (z_b0).mp h5
    exact absurd hve h5
set_option maxHeartbeats 4000000 in
set_option maxRecDepth 100000 in
theorem kX5_agree_ok (l : Launch) (G : zG) (m : Nat → Nat) (σ : Nat → Nat) (V : Nat → Nat → Nat) (ζ : Nat → Nat) (ns : Nat) (x : Nat → Nat) (len : Nat) (B : Nat → Int32) {N : Nat} (e : Nat) (hO : Ok N σ) (hns : ns ≤ 4) (he : e < nE σ) (hq : qrl σ e = 0) (hd : va_D (fun _ => True) (wM G m σ V ζ ns x len B)) : Met l yX5_agree wsX5_agree (zRm 6 138) (zPc G [.ref (m 0), .int (nI e)] (va_P G.1 vwCl (wM G m σ V ζ ns x len B))) (zQ (zA (wM G m σ V ζ ns x len B)) (some (.int (nI (agn σ e)))) (va_P G.1 vwCl (wM G m (su σ (4 + e) 1) (updv V ns σ) σ (nN ns) x len B))) 0 0 (zA (wM G m σ V ζ ns x len B)) := by
  refine zmkWi (w := (wM G m σ V ζ ns x len B)) hd (cc := cX5_agree) (maxL := 3) (by decide) rfl (Nat.le_of_ble_eq_true rfl) ?_
  intro pr en st mi ar bl me cd ls Q hx hb hml hown hts hG hP hl hD hS hret
  have hown : st.vm.findClass RX5 = some mi.cls := hown
  have hl : lv_has ls 3 [(0, .ref (m 0)), (1, .int (nI e))] := hl
  have hP : va_P G.1 vwCl (wM G m σ V ζ ns x len B) st.heap := hP
  have hD : va_D (zA (wM G m σ V ζ ns x len B)) (wM G m σ V ζ ns x len B) := hD
  have hinX5 : ∀ w ∈ wsX50, w ∈ wsX5_agree := by decide +kernel
  have hf7 := hts (.fieldLink RX5 7 "MapSheetsModel" "s" "[I") (by decide +kernel)
  have hc := hO.c
  have hs := hO.lS
  have hr := hO.lR
  have hne := hO.lE
  have hve : 0 ≤ nI e ∧ nI e < nI (nE σ) := z_in he (by omega)
  refine lv_aload_n hx hb dX5_agree_0 rfl (lv_at hl 0 rfl) ?_
  refine lv_iload_n hx hb dX5_agree_1 rfl (lv_at hl 1 rfl) ?_
  refine zrdV (As := [.int (nI e)]) ⟨hx, hb, hml, hown, hts⟩ (kX5_isEdge l G m σ V ζ ns x len B (nI e) (hO)) (cwV 1 hts gX5_agree_X5_isEdge rfl rfl rfl (by decide +kernel) ⟨Nat.le_of_ble_eq_true rfl, Nat.le_of_ble_eq_true rfl⟩) hG (va_recv (q0 := 0) (ci := 5) hG.1 hP rfl rfl) (hP) rfl rfl hl.1 dX5_agree_2 (Nat.le_of_ble_eq_true rfl) ⟨Nat.le_of_ble_eq_true rfl, Nat.le_of_ble_eq_true rfl⟩ ?_
  refine lv_if_ne (tgt := 10) hx hb dX5_agree_5 (by decide) (fun h5 => ?_) (fun h5 => ?_)
  · skip
    have h5 : ¬ (¬ (0 ≤ (nI e) ∧ (nI e) < nI (nE σ))) := fun q => h5 ((z_b0).mpr q)
    have h5 : 0 ≤ (nI e) ∧ (nI e) < nI (nE σ) := Decidable.of_not_not h5
    refine lv_aload_n hx hb dX5_agree_10 rfl (lv_at hl 0 rfl) ?_
    refine lv_iload_n hx hb dX5_agree_11 rfl (lv_at hl 1 rfl) ?_
    refine zrdV (As := [.int (nI e)]) ⟨hx, hb, hml, hown, hts⟩ (kX5_quarrels l G m σ V ζ ns x len B e (hO) (by omega)) (cwV 1 hts gX5_agree_X5_quarrels rfl rfl rfl (by decide +kernel) ⟨Nat.le_of_ble_eq_true rfl, Nat.le_of_ble_eq_true rfl⟩) hG (va_recv (q0 := 0) (ci := 5) hG.1 hP rfl rfl) (hP) rfl rfl hl.1 dX5_agree_12 (Nat.le_of_ble_eq_true rfl) ⟨Nat.le_of_ble_eq_true rfl, Nat.le_of_ble_eq_true rfl⟩ ?_
    have hf12_0 := qrl_le σ (e)
    refine lv_if_le (tgt := 21) hx hb dX5_agree_15 (by decide) (fun h15 => ?_) (fun h15 => ?_)
    · skip
      have h15 : (qrl σ e) = 0 := (z_le0 (by omega)).mp h15
      refine lv_aload_n hx hb dX5_agree_21 rfl (lv_at hl 0 rfl) ?_
      refine zwrWv (G := G) (wc := (wM G m σ V ζ ns x len B)) (wc' := (wM G m σ V σ ns x len B)) (va_runV (As := []) (rest := []) ⟨hx, hb, hml, hown, hts⟩ (kX5_hold l G m σ V ζ ns x len B (zD_any hD)) (cwV 0 hts gX5_agree_X5_hold rfl rfl rfl (by decide +kernel) ⟨Nat.le_of_ble_eq_true rfl, Nat.le_of_ble_eq_true rfl⟩) (zPreV hG (va_recv (q0 := 0) (ci := 5) hG.1 hP rfl rfl) (hP)) rfl rfl hl.1 rfl (lv_room (Nat.le_of_ble_eq_true rfl)) dX5_agree_22 ⟨Nat.le_of_ble_eq_true rfl, Nat.le_of_ble_eq_true rfl⟩) hP hD hS (wM_map ..) (fun H locs hP hD hS => ?_)
      have hP : va_P G.1 vwCl (wM G m σ V σ ns x len B) H := hP
      have hD : va_D (zA (wM G m σ V ζ ns x len B)) (wM G m σ V σ ns x len B) := hD
      refine lv_aload_n hx hb dX5_agree_25 rfl (lv_at hl 0 rfl) ?_
      refine va_get (D := G.1) (ci := 5) (v := .ref (m 1)) (C := RX5) (T := TX5) (N := 7) hx hb hts hinX5 hown hG.1 hP 0 rfl rfl 0 (by decide) hf7 (fun _ h9 => h9) rfl dX5_agree_26 ?_
      refine lv_iconst (v := nI 4) hx hb dX5_agree_29 (by decide) ?_
      refine lv_iload_n hx hb dX5_agree_30 rfl (lv_at hl 1 rfl) ?_
      refine lv_iadd hx hb dX5_agree_31 ?_
      refine lv_topi (nm_r (e' := nI (4 + e)) (nI_add _ _) ?_)
      refine va_iald hx hb hG.1 hP 1 0 rfl rfl (vp_in_nI (n := 4 + e) (N := 1972) (by omega) (by omega)) dX5_agree_32 ?_
      refine lv_topi (nm_r (e' := nI (σ (4 + e))) (by rw [nI_clamp (by omega)]; exact sF_n (by omega)) ?_)
      refine lv_istore_n (lv' := [(2, .int (nI (σ (4 + e)))), (0, .ref (m 0)), (1, .int (nI e))]) hx hb dX5_agree_33 rfl hl (by decide) rfl (fun ls hl => ?_)
      refine lv_aload_n hx hb dX5_agree_34 rfl (lv_at hl 1 rfl) ?_
      refine va_get (D := G.1) (ci := 5) (v := .ref (m 1)) (C := RX5) (T := TX5) (N := 7) hx hb hts hinX5 hown hG.1 hP 0 rfl rfl 0 (by decide) hf7 (fun _ h9 => h9) rfl dX5_agree_35 ?_
      refine lv_iconst (v := nI 4) hx hb dX5_agree_38 (by decide) ?_
      refine lv_iload_n hx hb dX5_agree_39 rfl (lv_at hl 2 rfl) ?_
      refine lv_iadd hx hb dX5_agree_40 ?_
      refine lv_topi (nm_r (e' := nI (4 + e)) (nI_add _ _) ?_)
      refine lv_iconst (v := nI 1) hx hb dX5_agree_41 (by decide) ?_
      refine va_iast hx hb hG.1 hP hD hS 1 0 rfl rfl (vp_in_nI (n := 4 + e) (N := 1972) (by omega) (by omega)) dX5_agree_42 (fun H locs hP hD hS => ?_)
      rw [nI_clamp (show 4 + e < 2 ^ 31 by omega)] at hP hD
      rw [sF_su (by omega)] at hP hD
      have hP : va_P G.1 vwCl (wM G m (su σ (4 + e) 1) V σ ns x len B) H := hP
      have hD : va_D (zA (wM G m σ V ζ ns x len B)) (wM G m (su σ (4 + e) 1) V σ ns x len B) := hD
      refine lv_aload_n hx hb dX5_agree_43 rfl (lv_at hl 1 rfl) ?_
      refine lv_iload_n hx hb dX5_agree_44 rfl (lv_at hl 0 rfl) ?_
      refine zwrW (G := G) (wc := (wM G m (su σ (4 + e) 1) V σ ns x len B)) (wc' := (wM G m (su σ (4 + e) 1) (updv V ns σ) σ (nN ns) x len B)) (va_runV (As := [.int (nI (σ (4 + e)))]) (rest := []) ⟨hx, hb, hml, hown, hts⟩ (kX5_records l G m (su σ (4 + e) 1) V σ ns x len B (nI (σ (4 + e))) (by omega) (zD_any hD)) (cwV 1 hts gX5_agree_X5_records rfl rfl rfl (by decide +kernel) ⟨Nat.le_of_ble_eq_true rfl, Nat.le_of_ble_eq_true rfl⟩) (zPreV hG (va_recv (q0 := 0) (ci := 5) hG.1 hP rfl rfl) (hP)) rfl rfl hl.1 rfl (lv_room (Nat.le_of_ble_eq_true rfl)) dX5_agree_45 ⟨Nat.le_of_ble_eq_true rfl, Nat.le_of_ble_eq_true rfl⟩) hP hD hS (wM_map ..) (fun H locs hP hD hS => ?_)
      have hP : va_P G.1 vwCl (wM G m (su σ (4 + e) 1) (updv V ns σ) σ (nN ns) x len B) H := hP
      have hD : va_D (zA (wM G m σ V ζ ns x len B)) (wM G m (su σ (4 + e) 1) (updv V ns σ) σ (nN ns) x len B) := hD
      exact hret _ _ _ _ _ dX5_agree_48 hS (hP) (rfl)
    · skip
      have h15 : ¬ ((qrl σ e) = 0) := fun q => h15 ((z_le0 (by omega)).mpr q)
      have h15 : 0 < (qrl σ e) := Nat.pos_of_ne_zero h15
      exfalso; omega
  · skip
    have h5 : ¬ (0 ≤ (nI e) ∧ (nI e) < nI (nE σ)) := (z_b0).mp h5
    exact absurd hve h5
set_option maxHeartbeats 4000000 in
set_option maxRecDepth 100000 in
theorem kX5_release_inv (l : Launch) (G : zG) (m : Nat → Nat) (σ : Nat → Nat) (V : Nat → Nat → Nat) (ζ : Nat → Nat) (ns : Nat) (x : Nat → Nat) (len : Nat) (B : Nat → Int32) {N : Nat} (x1 : Int32) (hO : Ok N σ) (hns : ns ≤ 4) (hv : ¬ (0 ≤ x1 ∧ x1 < nI (nE σ))) (hd : va_D (fun _ => True) (wM G m σ V ζ ns x len B)) : Met l yX5_release wsX5_release (zRm 5 109) (zPc G [.ref (m 0), .int x1] (va_P G.1 vwCl (wM G m σ V ζ ns x len B))) (zQ (zA (wM G m σ V ζ ns x len B)) (some (.int ((-1)))) (va_P G.1 vwCl (wM G m σ V ζ ns x len B))) 0 0 (zA (wM G m σ V ζ ns x len B)) := by
  refine zmkWi (w := (wM G m σ V ζ ns x len B)) hd (cc := cX5_release) (maxL := 2) (by decide) rfl (Nat.le_of_ble_eq_true rfl) ?_
  intro pr en st mi ar bl me cd ls Q hx hb hml hown hts hG hP hl hD hS hret
  have hown : st.vm.findClass RX5 = some mi.cls := hown
  have hl : lv_has ls 2 [(0, .ref (m 0)), (1, .int x1)] := hl
  have hP : va_P G.1 vwCl (wM G m σ V ζ ns x len B) st.heap := hP
  have hD : va_D (zA (wM G m σ V ζ ns x len B)) (wM G m σ V ζ ns x len B) := hD
  have hc := hO.c
  have hs := hO.lS
  have hr := hO.lR
  have hne := hO.lE
  refine lv_aload_n hx hb dX5_release_0 rfl (lv_at hl 0 rfl) ?_
  refine lv_iload_n hx hb dX5_release_1 rfl (lv_at hl 1 rfl) ?_
  refine zrdV (As := [.int x1]) ⟨hx, hb, hml, hown, hts⟩ (kX5_isEdge l G m σ V ζ ns x len B x1 (hO)) (cwV 1 hts gX5_release_X5_isEdge rfl rfl rfl (by decide +kernel) ⟨Nat.le_of_ble_eq_true rfl, Nat.le_of_ble_eq_true rfl⟩) hG (va_recv (q0 := 0) (ci := 5) hG.1 hP rfl rfl) (hP) rfl rfl hl.1 dX5_release_2 (Nat.le_of_ble_eq_true rfl) ⟨Nat.le_of_ble_eq_true rfl, Nat.le_of_ble_eq_true rfl⟩ ?_
  refine lv_if_ne (tgt := 10) hx hb dX5_release_5 (by decide) (fun h5 => ?_) (fun h5 => ?_)
  · skip
    have h5 : ¬ (¬ (0 ≤ x1 ∧ x1 < nI (nE σ))) := fun q => h5 ((z_b0).mpr q)
    have h5 : 0 ≤ x1 ∧ x1 < nI (nE σ) := Decidable.of_not_not h5
    exact absurd h5 hv
  · skip
    have h5 : ¬ (0 ≤ x1 ∧ x1 < nI (nE σ)) := (z_b0).mp h5
    refine lv_iconst (v := (-1)) hx hb dX5_release_8 (by decide) ?_
    exact hret _ _ _ _ _ dX5_release_9 hS (hP) (rfl)
set_option maxHeartbeats 4000000 in
set_option maxRecDepth 100000 in
theorem kX5_release_no (l : Launch) (G : zG) (m : Nat → Nat) (σ : Nat → Nat) (V : Nat → Nat → Nat) (ζ : Nat → Nat) (ns : Nat) (x : Nat → Nat) (len : Nat) (B : Nat → Int32) {N : Nat} (e : Nat) (hO : Ok N σ) (hns : ns ≤ 4) (he : e < nE σ) (hq : agn σ e ≠ 1) (hd : va_D (fun _ => True) (wM G m σ V ζ ns x len B)) : Met l yX5_release wsX5_release (zRm 5 109) (zPc G [.ref (m 0), .int (nI e)] (va_P G.1 vwCl (wM G m σ V ζ ns x len B))) (zQ (zA (wM G m σ V ζ ns x len B)) (some (.int ((-2)))) (va_P G.1 vwCl (wM G m σ V ζ ns x len B))) 0 0 (zA (wM G m σ V ζ ns x len B)) := by
  refine zmkWi (w := (wM G m σ V ζ ns x len B)) hd (cc := cX5_release) (maxL := 2) (by decide) rfl (Nat.le_of_ble_eq_true rfl) ?_
  intro pr en st mi ar bl me cd ls Q hx hb hml hown hts hG hP hl hD hS hret
  have hown : st.vm.findClass RX5 = some mi.cls := hown
  have hl : lv_has ls 2 [(0, .ref (m 0)), (1, .int (nI e))] := hl
  have hP : va_P G.1 vwCl (wM G m σ V ζ ns x len B) st.heap := hP
  have hD : va_D (zA (wM G m σ V ζ ns x len B)) (wM G m σ V ζ ns x len B) := hD
  have hc := hO.c
  have hs := hO.lS
  have hr := hO.lR
  have hne := hO.lE
  have hve : 0 ≤ nI e ∧ nI e < nI (nE σ) := z_in he (by omega)
  refine lv_aload_n hx hb dX5_release_0 rfl (lv_at hl 0 rfl) ?_
  refine lv_iload_n hx hb dX5_release_1 rfl (lv_at hl 1 rfl) ?_
  refine zrdV (As := [.int (nI e)]) ⟨hx, hb, hml, hown, hts⟩ (kX5_isEdge l G m σ V ζ ns x len B (nI e) (hO)) (cwV 1 hts gX5_release_X5_isEdge rfl rfl rfl (by decide +kernel) ⟨Nat.le_of_ble_eq_true rfl, Nat.le_of_ble_eq_true rfl⟩) hG (va_recv (q0 := 0) (ci := 5) hG.1 hP rfl rfl) (hP) rfl rfl hl.1 dX5_release_2 (Nat.le_of_ble_eq_true rfl) ⟨Nat.le_of_ble_eq_true rfl, Nat.le_of_ble_eq_true rfl⟩ ?_
  refine lv_if_ne (tgt := 10) hx hb dX5_release_5 (by decide) (fun h5 => ?_) (fun h5 => ?_)
  · skip
    have h5 : ¬ (¬ (0 ≤ (nI e) ∧ (nI e) < nI (nE σ))) := fun q => h5 ((z_b0).mpr q)
    have h5 : 0 ≤ (nI e) ∧ (nI e) < nI (nE σ) := Decidable.of_not_not h5
    refine lv_aload_n hx hb dX5_release_10 rfl (lv_at hl 0 rfl) ?_
    refine lv_iload_n hx hb dX5_release_11 rfl (lv_at hl 1 rfl) ?_
    refine zrdV (As := [.int (nI e)]) ⟨hx, hb, hml, hown, hts⟩ (kX5_isAgreed l G m σ V ζ ns x len B e (hO) (by omega)) (cwV 1 hts gX5_release_X5_isAgreed rfl rfl rfl (by decide +kernel) ⟨Nat.le_of_ble_eq_true rfl, Nat.le_of_ble_eq_true rfl⟩) hG (va_recv (q0 := 0) (ci := 5) hG.1 hP rfl rfl) (hP) rfl rfl hl.1 dX5_release_12 (Nat.le_of_ble_eq_true rfl) ⟨Nat.le_of_ble_eq_true rfl, Nat.le_of_ble_eq_true rfl⟩ ?_
    refine lv_if_ne (tgt := 21) hx hb dX5_release_15 (by decide) (fun h15 => ?_) (fun h15 => ?_)
    · skip
      have h15 : ¬ (¬ (agn σ e = 1)) := fun q => h15 ((z_b0).mpr q)
      have h15 : agn σ e = 1 := Decidable.of_not_not h15
      exact absurd h15 hq
    · skip
      have h15 : ¬ (agn σ e = 1) := (z_b0).mp h15
      refine lv_bipush (v := (-2)) hx hb dX5_release_18 (by decide) ?_
      exact hret _ _ _ _ _ dX5_release_20 hS (hP) (rfl)
  · skip
    have h5 : ¬ (0 ≤ (nI e) ∧ (nI e) < nI (nE σ)) := (z_b0).mp h5
    exact absurd hve h5
set_option maxHeartbeats 4000000 in
set_option maxRecDepth 100000 in
theorem kX5_release_ok (l : Launch) (G : zG) (m : Nat → Nat) (σ : Nat → Nat) (V : Nat → Nat → Nat) (ζ : Nat → Nat) (ns : Nat) (x : Nat → Nat) (len : Nat) (B : Nat → Int32) {N : Nat} (e : Nat) (hO : Ok N σ) (hns : ns ≤ 4) (he : e < nE σ) (hq : agn σ e = 1) (hd : va_D (fun _ => True) (wM G m σ V ζ ns x len B)) : Met l yX5_release wsX5_release (zRm 5 109) (zPc G [.ref (m 0), .int (nI e)] (va_P G.1 vwCl (wM G m σ V ζ ns x len B))) (zQ (zA (wM G m σ V ζ ns x len B)) (some (.int (nI (fnd (su σ (4 + e) 0) (nE (su σ (4 + e) 0)))))) (va_P G.1 vwCl (wM G m (su σ (4 + e) 0) (updv V ns σ) σ (nN ns) x len (blF (su σ (4 + e) 0) B)))) 0 0 (zA (wM G m σ V ζ ns x len B)) := by
  refine zmkWi (w := (wM G m σ V ζ ns x len B)) hd (cc := cX5_release) (maxL := 2) (by decide) rfl (Nat.le_of_ble_eq_true rfl) ?_
  intro pr en st mi ar bl me cd ls Q hx hb hml hown hts hG hP hl hD hS hret
  have hown : st.vm.findClass RX5 = some mi.cls := hown
  have hl : lv_has ls 2 [(0, .ref (m 0)), (1, .int (nI e))] := hl
  have hP : va_P G.1 vwCl (wM G m σ V ζ ns x len B) st.heap := hP
  have hD : va_D (zA (wM G m σ V ζ ns x len B)) (wM G m σ V ζ ns x len B) := hD
  have hinX5 : ∀ w ∈ wsX50, w ∈ wsX5_release := by decide +kernel
  have hf7 := hts (.fieldLink RX5 7 "MapSheetsModel" "s" "[I") (by decide +kernel)
  have hc := hO.c
  have hs := hO.lS
  have hr := hO.lR
  have hne := hO.lE
  have hve : 0 ≤ nI e ∧ nI e < nI (nE σ) := z_in he (by omega)
  refine lv_aload_n hx hb dX5_release_0 rfl (lv_at hl 0 rfl) ?_
  refine lv_iload_n hx hb dX5_release_1 rfl (lv_at hl 1 rfl) ?_
  refine zrdV (As := [.int (nI e)]) ⟨hx, hb, hml, hown, hts⟩ (kX5_isEdge l G m σ V ζ ns x len B (nI e) (hO)) (cwV 1 hts gX5_release_X5_isEdge rfl rfl rfl (by decide +kernel) ⟨Nat.le_of_ble_eq_true rfl, Nat.le_of_ble_eq_true rfl⟩) hG (va_recv (q0 := 0) (ci := 5) hG.1 hP rfl rfl) (hP) rfl rfl hl.1 dX5_release_2 (Nat.le_of_ble_eq_true rfl) ⟨Nat.le_of_ble_eq_true rfl, Nat.le_of_ble_eq_true rfl⟩ ?_
  refine lv_if_ne (tgt := 10) hx hb dX5_release_5 (by decide) (fun h5 => ?_) (fun h5 => ?_)
  · skip
    have h5 : ¬ (¬ (0 ≤ (nI e) ∧ (nI e) < nI (nE σ))) := fun q => h5 ((z_b0).mpr q)
    have h5 : 0 ≤ (nI e) ∧ (nI e) < nI (nE σ) := Decidable.of_not_not h5
    refine lv_aload_n hx hb dX5_release_10 rfl (lv_at hl 0 rfl) ?_
    refine lv_iload_n hx hb dX5_release_11 rfl (lv_at hl 1 rfl) ?_
    refine zrdV (As := [.int (nI e)]) ⟨hx, hb, hml, hown, hts⟩ (kX5_isAgreed l G m σ V ζ ns x len B e (hO) (by omega)) (cwV 1 hts gX5_release_X5_isAgreed rfl rfl rfl (by decide +kernel) ⟨Nat.le_of_ble_eq_true rfl, Nat.le_of_ble_eq_true rfl⟩) hG (va_recv (q0 := 0) (ci := 5) hG.1 hP rfl rfl) (hP) rfl rfl hl.1 dX5_release_12 (Nat.le_of_ble_eq_true rfl) ⟨Nat.le_of_ble_eq_true rfl, Nat.le_of_ble_eq_true rfl⟩ ?_
    refine lv_if_ne (tgt := 21) hx hb dX5_release_15 (by decide) (fun h15 => ?_) (fun h15 => ?_)
    · skip
      have h15 : ¬ (¬ (agn σ e = 1)) := fun q => h15 ((z_b0).mpr q)
      have h15 : agn σ e = 1 := Decidable.of_not_not h15
      refine lv_aload_n hx hb dX5_release_21 rfl (lv_at hl 0 rfl) ?_
      refine zwrWv (G := G) (wc := (wM G m σ V ζ ns x len B)) (wc' := (wM G m σ V σ ns x len B)) (va_runV (As := []) (rest := []) ⟨hx, hb, hml, hown, hts⟩ (kX5_hold l G m σ V ζ ns x len B (zD_any hD)) (cwV 0 hts gX5_release_X5_hold rfl rfl rfl (by decide +kernel) ⟨Nat.le_of_ble_eq_true rfl, Nat.le_of_ble_eq_true rfl⟩) (zPreV hG (va_recv (q0 := 0) (ci := 5) hG.1 hP rfl rfl) (hP)) rfl rfl hl.1 rfl (lv_room (Nat.le_of_ble_eq_true rfl)) dX5_release_22 ⟨Nat.le_of_ble_eq_true rfl, Nat.le_of_ble_eq_true rfl⟩) hP hD hS (wM_map ..) (fun H locs hP hD hS => ?_)
      have hP : va_P G.1 vwCl (wM G m σ V σ ns x len B) H := hP
      have hD : va_D (zA (wM G m σ V ζ ns x len B)) (wM G m σ V σ ns x len B) := hD
      refine lv_aload_n hx hb dX5_release_25 rfl (lv_at hl 0 rfl) ?_
      refine va_get (D := G.1) (ci := 5) (v := .ref (m 1)) (C := RX5) (T := TX5) (N := 7) hx hb hts hinX5 hown hG.1 hP 0 rfl rfl 0 (by decide) hf7 (fun _ h9 => h9) rfl dX5_release_26 ?_
      refine lv_iconst (v := nI 4) hx hb dX5_release_29 (by decide) ?_
      refine lv_iload_n hx hb dX5_release_30 rfl (lv_at hl 1 rfl) ?_
      refine lv_iadd hx hb dX5_release_31 ?_
      refine lv_topi (nm_r (e' := nI (4 + e)) (nI_add _ _) ?_)
      refine lv_iconst (v := nI 0) hx hb dX5_release_32 (by decide) ?_
      refine va_iast hx hb hG.1 hP hD hS 1 0 rfl rfl (vp_in_nI (n := 4 + e) (N := 1972) (by omega) (by omega)) dX5_release_33 (fun H locs hP hD hS => ?_)
      rw [nI_clamp (show 4 + e < 2 ^ 31 by omega)] at hP hD
      rw [sF_su (by omega)] at hP hD
      have hP : va_P G.1 vwCl (wM G m (su σ (4 + e) 0) V σ ns x len B) H := hP
      have hD : va_D (zA (wM G m σ V ζ ns x len B)) (wM G m (su σ (4 + e) 0) V σ ns x len B) := hD
      refine lv_aload_n hx hb dX5_release_34 rfl (lv_at hl 0 rfl) ?_
      refine lv_aload_n hx hb dX5_release_35 rfl (lv_at hl 0 rfl) ?_
      refine zwrW (G := G) (wc := (wM G m (su σ (4 + e) 0) V σ ns x len B)) (wc' := (wM G m (su σ (4 + e) 0) V σ ns x len (blF (su σ (4 + e) 0) B))) (va_runV (As := []) (rest := [.ref (m 0)]) ⟨hx, hb, hml, hown, hts⟩ (kX5_blocks l G m (su σ (4 + e) 0) V σ ns x len B (hO.su_ag (by omega) (by omega)) (zD_any hD)) (cwV 0 hts gX5_release_X5_blocks rfl rfl rfl (by decide +kernel) ⟨Nat.le_of_ble_eq_true rfl, Nat.le_of_ble_eq_true rfl⟩) (zPreV hG (va_recv (q0 := 0) (ci := 5) hG.1 hP rfl rfl) (hP)) rfl rfl hl.1 rfl (lv_room (Nat.le_of_ble_eq_true rfl)) dX5_release_36 ⟨Nat.le_of_ble_eq_true rfl, Nat.le_of_ble_eq_true rfl⟩) hP hD hS (wM_map ..) (fun H locs hP hD hS => ?_)
      have hP : va_P G.1 vwCl (wM G m (su σ (4 + e) 0) V σ ns x len (blF (su σ (4 + e) 0) B)) H := hP
      have hD : va_D (zA (wM G m σ V ζ ns x len B)) (wM G m (su σ (4 + e) 0) V σ ns x len (blF (su σ (4 + e) 0) B)) := hD
      refine zwrW (G := G) (wc := (wM G m (su σ (4 + e) 0) V σ ns x len (blF (su σ (4 + e) 0) B))) (wc' := (wM G m (su σ (4 + e) 0) (updv V ns σ) σ (nN ns) x len (blF (su σ (4 + e) 0) B))) (va_runV (As := [.int (nI (fnd (su σ (4 + e) 0) (nE (su σ (4 + e) 0))))]) (rest := []) ⟨hx, hb, hml, hown, hts⟩ (kX5_records l G m (su σ (4 + e) 0) V σ ns x len (blF (su σ (4 + e) 0) B) (nI (fnd (su σ (4 + e) 0) (nE (su σ (4 + e) 0)))) (by omega) (zD_any hD)) (cwV 1 hts gX5_release_X5_records rfl rfl rfl (by decide +kernel) ⟨Nat.le_of_ble_eq_true rfl, Nat.le_of_ble_eq_true rfl⟩) (zPreV hG (va_recv (q0 := 0) (ci := 5) hG.1 hP rfl rfl) (hP)) rfl rfl hl.1 rfl (lv_room (Nat.le_of_ble_eq_true rfl)) dX5_release_39 ⟨Nat.le_of_ble_eq_true rfl, Nat.le_of_ble_eq_true rfl⟩) hP hD hS (wM_map ..) (fun H locs hP hD hS => ?_)
      have hP : va_P G.1 vwCl (wM G m (su σ (4 + e) 0) (updv V ns σ) σ (nN ns) x len (blF (su σ (4 + e) 0) B)) H := hP
      have hD : va_D (zA (wM G m σ V ζ ns x len B)) (wM G m (su σ (4 + e) 0) (updv V ns σ) σ (nN ns) x len (blF (su σ (4 + e) 0) B)) := hD
      exact hret _ _ _ _ _ dX5_release_42 hS (hP) (rfl)
    · skip
      have h15 : ¬ (agn σ e = 1) := (z_b0).mp h15
      exact absurd hq h15
  · skip
    have h5 : ¬ (0 ≤ (nI e) ∧ (nI e) < nI (nE σ)) := (z_b0).mp h5
    exact absurd hve h5
set_option maxHeartbeats 4000000 in
set_option maxRecDepth 100000 in
theorem kX5_publish_inv (l : Launch) (G : zG) (m : Nat → Nat) (σ : Nat → Nat) (V : Nat → Nat → Nat) (ζ : Nat → Nat) (ns : Nat) (x : Nat → Nat) (len : Nat) (B : Nat → Int32) {N : Nat} (x1 : Int32) (hO : Ok N σ) (hns : ns ≤ 4) (hv : ¬ (0 ≤ x1 ∧ x1 < nI (nS σ))) (hd : va_D (fun _ => True) (wM G m σ V ζ ns x len B)) : Met l yX5_publish wsX5_publish (zRm 3 70) (zPc G [.ref (m 0), .int x1] (va_P G.1 vwCl (wM G m σ V ζ ns x len B))) (zQ (zA (wM G m σ V ζ ns x len B)) (some (.int ((-1)))) (va_P G.1 vwCl (wM G m σ V ζ ns x len B))) 0 0 (zA (wM G m σ V ζ ns x len B)) := by
  refine zmkWi (w := (wM G m σ V ζ ns x len B)) hd (cc := cX5_publish) (maxL := 2) (by decide) rfl (Nat.le_of_ble_eq_true rfl) ?_
  intro pr en st mi ar bl me cd ls Q hx hb hml hown hts hG hP hl hD hS hret
  have hown : st.vm.findClass RX5 = some mi.cls := hown
  have hl : lv_has ls 2 [(0, .ref (m 0)), (1, .int x1)] := hl
  have hP : va_P G.1 vwCl (wM G m σ V ζ ns x len B) st.heap := hP
  have hD : va_D (zA (wM G m σ V ζ ns x len B)) (wM G m σ V ζ ns x len B) := hD
  have hc := hO.c
  have hs := hO.lS
  have hr := hO.lR
  have hne := hO.lE
  refine lv_aload_n hx hb dX5_publish_0 rfl (lv_at hl 0 rfl) ?_
  refine lv_iload_n hx hb dX5_publish_1 rfl (lv_at hl 1 rfl) ?_
  refine zrdV (As := [.int x1]) ⟨hx, hb, hml, hown, hts⟩ (kX5_isSheet l G m σ V ζ ns x len B x1) (cwV 1 hts gX5_publish_X5_isSheet rfl rfl rfl (by decide +kernel) ⟨Nat.le_of_ble_eq_true rfl, Nat.le_of_ble_eq_true rfl⟩) hG (va_recv (q0 := 0) (ci := 5) hG.1 hP rfl rfl) (hP) rfl rfl hl.1 dX5_publish_2 (Nat.le_of_ble_eq_true rfl) ⟨Nat.le_of_ble_eq_true rfl, Nat.le_of_ble_eq_true rfl⟩ ?_
  refine lv_if_ne (tgt := 10) hx hb dX5_publish_5 (by decide) (fun h5 => ?_) (fun h5 => ?_)
  · skip
    have h5 : ¬ (¬ (0 ≤ x1 ∧ x1 < nI (nS σ))) := fun q => h5 ((z_b0).mpr q)
    have h5 : 0 ≤ x1 ∧ x1 < nI (nS σ) := Decidable.of_not_not h5
    exact absurd h5 hv
  · skip
    have h5 : ¬ (0 ≤ x1 ∧ x1 < nI (nS σ)) := (z_b0).mp h5
    refine lv_iconst (v := (-1)) hx hb dX5_publish_8 (by decide) ?_
    exact hret _ _ _ _ _ dX5_publish_9 hS (hP) (rfl)
set_option maxHeartbeats 4000000 in
set_option maxRecDepth 100000 in
theorem kX5_publish_no (l : Launch) (G : zG) (m : Nat → Nat) (σ : Nat → Nat) (V : Nat → Nat → Nat) (ζ : Nat → Nat) (ns : Nat) (x : Nat → Nat) (len : Nat) (B : Nat → Int32) {N : Nat} (k : Nat) (hO : Ok N σ) (hns : ns ≤ 4) (hk : k < nS σ) (hq : nAd σ k < nEd σ k) (hd : va_D (fun _ => True) (wM G m σ V ζ ns x len B)) : Met l yX5_publish wsX5_publish (zRm 3 70) (zPc G [.ref (m 0), .int (nI k)] (va_P G.1 vwCl (wM G m σ V ζ ns x len B))) (zQ (zA (wM G m σ V ζ ns x len B)) (some (.int ((-2)))) (va_P G.1 vwCl (wM G m σ V ζ ns x len B))) 0 0 (zA (wM G m σ V ζ ns x len B)) := by
  refine zmkWi (w := (wM G m σ V ζ ns x len B)) hd (cc := cX5_publish) (maxL := 2) (by decide) rfl (Nat.le_of_ble_eq_true rfl) ?_
  intro pr en st mi ar bl me cd ls Q hx hb hml hown hts hG hP hl hD hS hret
  have hown : st.vm.findClass RX5 = some mi.cls := hown
  have hl : lv_has ls 2 [(0, .ref (m 0)), (1, .int (nI k))] := hl
  have hP : va_P G.1 vwCl (wM G m σ V ζ ns x len B) st.heap := hP
  have hD : va_D (zA (wM G m σ V ζ ns x len B)) (wM G m σ V ζ ns x len B) := hD
  have hc := hO.c
  have hs := hO.lS
  have hr := hO.lR
  have hne := hO.lE
  have hvs : 0 ≤ nI k ∧ nI k < nI (nS σ) := z_in hk (by omega)
  have hna := nAd_le σ k
  have hne4 := nEd_le σ k
  refine lv_aload_n hx hb dX5_publish_0 rfl (lv_at hl 0 rfl) ?_
  refine lv_iload_n hx hb dX5_publish_1 rfl (lv_at hl 1 rfl) ?_
  refine zrdV (As := [.int (nI k)]) ⟨hx, hb, hml, hown, hts⟩ (kX5_isSheet l G m σ V ζ ns x len B (nI k)) (cwV 1 hts gX5_publish_X5_isSheet rfl rfl rfl (by decide +kernel) ⟨Nat.le_of_ble_eq_true rfl, Nat.le_of_ble_eq_true rfl⟩) hG (va_recv (q0 := 0) (ci := 5) hG.1 hP rfl rfl) (hP) rfl rfl hl.1 dX5_publish_2 (Nat.le_of_ble_eq_true rfl) ⟨Nat.le_of_ble_eq_true rfl, Nat.le_of_ble_eq_true rfl⟩ ?_
  refine lv_if_ne (tgt := 10) hx hb dX5_publish_5 (by decide) (fun h5 => ?_) (fun h5 => ?_)
  · skip
    have h5 : ¬ (¬ (0 ≤ (nI k) ∧ (nI k) < nI (nS σ))) := fun q => h5 ((z_b0).mpr q)
    have h5 : 0 ≤ (nI k) ∧ (nI k) < nI (nS σ) := Decidable.of_not_not h5
    refine lv_aload_n hx hb dX5_publish_10 rfl (lv_at hl 0 rfl) ?_
    refine lv_iload_n hx hb dX5_publish_11 rfl (lv_at hl 1 rfl) ?_
    refine lv_iconst (v := nI 1) hx hb dX5_publish_12 (by decide) ?_
    refine zrdV (As := [.int (nI k), .int (nI 1)]) ⟨hx, hb, hml, hown, hts⟩ (kX5_edgesOf_1 l G m σ V ζ ns x len B k (hO) (by omega)) (cwV 2 hts gX5_publish_X5_edgesOf rfl rfl rfl (by decide +kernel) ⟨Nat.le_of_ble_eq_true rfl, Nat.le_of_ble_eq_true rfl⟩) hG (va_recv (q0 := 0) (ci := 5) hG.1 hP rfl rfl) (hP) rfl rfl hl.1 dX5_publish_13 (Nat.le_of_ble_eq_true rfl) ⟨Nat.le_of_ble_eq_true rfl, Nat.le_of_ble_eq_true rfl⟩ ?_
    refine lv_aload_n hx hb dX5_publish_16 rfl (lv_at hl 0 rfl) ?_
    refine lv_iload_n hx hb dX5_publish_17 rfl (lv_at hl 1 rfl) ?_
    refine lv_iconst (v := nI 0) hx hb dX5_publish_18 (by decide) ?_
    refine zrdV (As := [.int (nI k), .int (nI 0)]) ⟨hx, hb, hml, hown, hts⟩ (kX5_edgesOf_0 l G m σ V ζ ns x len B k (hO) (by omega)) (cwV 2 hts gX5_publish_X5_edgesOf rfl rfl rfl (by decide +kernel) ⟨Nat.le_of_ble_eq_true rfl, Nat.le_of_ble_eq_true rfl⟩) hG (va_recv (q0 := 0) (ci := 5) hG.1 hP rfl rfl) (hP) rfl rfl hl.1 dX5_publish_19 (Nat.le_of_ble_eq_true rfl) ⟨Nat.le_of_ble_eq_true rfl, Nat.le_of_ble_eq_true rfl⟩ ?_
    refine lv_icmp_ge (tgt := 28) hx hb dX5_publish_22 (by decide) (fun h22 => ?_) (fun h22 => ?_)
    · skip
      have h22 : (nEd σ k) ≤ (nAd σ k) := (nI_leI (by omega) (by omega)).mp h22
      exfalso; omega
    · skip
      have h22 : ¬ ((nEd σ k) ≤ (nAd σ k)) := fun q => h22 ((nI_leI (by omega) (by omega)).mpr q)
      refine lv_bipush (v := (-2)) hx hb dX5_publish_25 (by decide) ?_
      exact hret _ _ _ _ _ dX5_publish_27 hS (hP) (rfl)
  · skip
    have h5 : ¬ (0 ≤ (nI k) ∧ (nI k) < nI (nS σ)) := (z_b0).mp h5
    exact absurd hvs h5
set_option maxHeartbeats 4000000 in
set_option maxRecDepth 100000 in
theorem kX5_publish_ok (l : Launch) (G : zG) (m : Nat → Nat) (σ : Nat → Nat) (V : Nat → Nat → Nat) (ζ : Nat → Nat) (ns : Nat) (x : Nat → Nat) (len : Nat) (B : Nat → Int32) {N : Nat} (k : Nat) (hO : Ok N σ) (hns : ns ≤ 4) (hk : k < nS σ) (hq : ¬ nAd σ k < nEd σ k) (hd : va_D (fun _ => True) (wM G m σ V ζ ns x len B)) : Met l yX5_publish wsX5_publish (zRm 3 70) (zPc G [.ref (m 0), .int (nI k)] (va_P G.1 vwCl (wM G m σ V ζ ns x len B))) (zQ (zA (wM G m σ V ζ ns x len B)) (some (.int (nI (rvn σ k)))) (va_P G.1 vwCl (wM G m (su σ (115 + 53 * k) (rvn σ k + 1)) (updv V ns σ) σ (nN ns) x len B))) 0 0 (zA (wM G m σ V ζ ns x len B)) := by
  refine zmkWi (w := (wM G m σ V ζ ns x len B)) hd (cc := cX5_publish) (maxL := 2) (by decide) rfl (Nat.le_of_ble_eq_true rfl) ?_
  intro pr en st mi ar bl me cd ls Q hx hb hml hown hts hG hP hl hD hS hret
  have hown : st.vm.findClass RX5 = some mi.cls := hown
  have hl : lv_has ls 2 [(0, .ref (m 0)), (1, .int (nI k))] := hl
  have hP : va_P G.1 vwCl (wM G m σ V ζ ns x len B) st.heap := hP
  have hD : va_D (zA (wM G m σ V ζ ns x len B)) (wM G m σ V ζ ns x len B) := hD
  have hc := hO.c
  have hs := hO.lS
  have hr := hO.lR
  have hne := hO.lE
  have hvs : 0 ≤ nI k ∧ nI k < nI (nS σ) := z_in hk (by omega)
  have hna := nAd_le σ k
  have hne4 := nEd_le σ k
  refine lv_aload_n hx hb dX5_publish_0 rfl (lv_at hl 0 rfl) ?_
  refine lv_iload_n hx hb dX5_publish_1 rfl (lv_at hl 1 rfl) ?_
  refine zrdV (As := [.int (nI k)]) ⟨hx, hb, hml, hown, hts⟩ (kX5_isSheet l G m σ V ζ ns x len B (nI k)) (cwV 1 hts gX5_publish_X5_isSheet rfl rfl rfl (by decide +kernel) ⟨Nat.le_of_ble_eq_true rfl, Nat.le_of_ble_eq_true rfl⟩) hG (va_recv (q0 := 0) (ci := 5) hG.1 hP rfl rfl) (hP) rfl rfl hl.1 dX5_publish_2 (Nat.le_of_ble_eq_true rfl) ⟨Nat.le_of_ble_eq_true rfl, Nat.le_of_ble_eq_true rfl⟩ ?_
  refine lv_if_ne (tgt := 10) hx hb dX5_publish_5 (by decide) (fun h5 => ?_) (fun h5 => ?_)
  · skip
    have h5 : ¬ (¬ (0 ≤ (nI k) ∧ (nI k) < nI (nS σ))) := fun q => h5 ((z_b0).mpr q)
    have h5 : 0 ≤ (nI k) ∧ (nI k) < nI (nS σ) := Decidable.of_not_not h5
    refine lv_aload_n hx hb dX5_publish_10 rfl (lv_at hl 0 rfl) ?_
    refine lv_iload_n hx hb dX5_publish_11 rfl (lv_at hl 1 rfl) ?_
    refine lv_iconst (v := nI 1) hx hb dX5_publish_12 (by decide) ?_
    refine zrdV (As := [.int (nI k), .int (nI 1)]) ⟨hx, hb, hml, hown, hts⟩ (kX5_edgesOf_1 l G m σ V ζ ns x len B k (hO) (by omega)) (cwV 2 hts gX5_publish_X5_edgesOf rfl rfl rfl (by decide +kernel) ⟨Nat.le_of_ble_eq_true rfl, Nat.le_of_ble_eq_true rfl⟩) hG (va_recv (q0 := 0) (ci := 5) hG.1 hP rfl rfl) (hP) rfl rfl hl.1 dX5_publish_13 (Nat.le_of_ble_eq_true rfl) ⟨Nat.le_of_ble_eq_true rfl, Nat.le_of_ble_eq_true rfl⟩ ?_
    refine lv_aload_n hx hb dX5_publish_16 rfl (lv_at hl 0 rfl) ?_
    refine lv_iload_n hx hb dX5_publish_17 rfl (lv_at hl 1 rfl) ?_
    refine lv_iconst (v := nI 0) hx hb dX5_publish_18 (by decide) ?_
    refine zrdV (As := [.int (nI k), .int (nI 0)]) ⟨hx, hb, hml, hown, hts⟩ (kX5_edgesOf_0 l G m σ V ζ ns x len B k (hO) (by omega)) (cwV 2 hts gX5_publish_X5_edgesOf rfl rfl rfl (by decide +kernel) ⟨Nat.le_of_ble_eq_true rfl, Nat.le_of_ble_eq_true rfl⟩) hG (va_recv (q0 := 0) (ci := 5) hG.1 hP rfl rfl) (hP) rfl rfl hl.1 dX5_publish_19 (Nat.le_of_ble_eq_true rfl) ⟨Nat.le_of_ble_eq_true rfl, Nat.le_of_ble_eq_true rfl⟩ ?_
    refine lv_icmp_ge (tgt := 28) hx hb dX5_publish_22 (by decide) (fun h22 => ?_) (fun h22 => ?_)
    · skip
      have h22 : (nEd σ k) ≤ (nAd σ k) := (nI_leI (by omega) (by omega)).mp h22
      refine lv_aload_n hx hb dX5_publish_28 rfl (lv_at hl 0 rfl) ?_
      refine zwrWv (G := G) (wc := (wM G m σ V ζ ns x len B)) (wc' := (wM G m σ V σ ns x len B)) (va_runV (As := []) (rest := []) ⟨hx, hb, hml, hown, hts⟩ (kX5_hold l G m σ V ζ ns x len B (zD_any hD)) (cwV 0 hts gX5_publish_X5_hold rfl rfl rfl (by decide +kernel) ⟨Nat.le_of_ble_eq_true rfl, Nat.le_of_ble_eq_true rfl⟩) (zPreV hG (va_recv (q0 := 0) (ci := 5) hG.1 hP rfl rfl) (hP)) rfl rfl hl.1 rfl (lv_room (Nat.le_of_ble_eq_true rfl)) dX5_publish_29 ⟨Nat.le_of_ble_eq_true rfl, Nat.le_of_ble_eq_true rfl⟩) hP hD hS (wM_map ..) (fun H locs hP hD hS => ?_)
      have hP : va_P G.1 vwCl (wM G m σ V σ ns x len B) H := hP
      have hD : va_D (zA (wM G m σ V ζ ns x len B)) (wM G m σ V σ ns x len B) := hD
      refine lv_aload_n hx hb dX5_publish_32 rfl (lv_at hl 0 rfl) ?_
      refine lv_iload_n hx hb dX5_publish_33 rfl (lv_at hl 1 rfl) ?_
      refine lv_bipush (v := nI 51) hx hb dX5_publish_34 (by decide) ?_
      refine lv_aload_n hx hb dX5_publish_36 rfl (lv_at hl 0 rfl) ?_
      refine lv_iload_n hx hb dX5_publish_37 rfl (lv_at hl 1 rfl) ?_
      refine lv_bipush (v := nI 50) hx hb dX5_publish_38 (by decide) ?_
      refine zrdV (As := [.int (nI k), .int (nI 50)]) ⟨hx, hb, hml, hown, hts⟩ (kX5_of l G m σ V σ ns x len B k 50 (by omega) (by omega) (by omega)) (cwV 2 hts gX5_publish_X5_of rfl rfl rfl (by decide +kernel) ⟨Nat.le_of_ble_eq_true rfl, Nat.le_of_ble_eq_true rfl⟩) hG (va_recv (q0 := 0) (ci := 5) hG.1 hP rfl rfl) (hP) rfl rfl hl.1 dX5_publish_40 (Nat.le_of_ble_eq_true rfl) ⟨Nat.le_of_ble_eq_true rfl, Nat.le_of_ble_eq_true rfl⟩ ?_
      refine lv_topi (nm_r (e' := nI (rvn σ k)) (by unfold rvn; rw [show 114 + 53 * k = 64 + 53 * k + 50 by omega]) ?_)
      refine zwrWv (G := G) (wc := (wM G m σ V σ ns x len B)) (wc' := (wM G m (su σ (115 + 53 * k) ((rvn σ k) + 1)) V σ ns x len B)) (va_runV (As := [.int (nI k), .int (nI 51), .int (nI (rvn σ k))]) (rest := []) ⟨hx, hb, hml, hown, hts⟩ (kX5_puts_p l G m σ V σ ns x len B k (rvn σ k) (by omega) (zD_any hD)) (cwV 3 hts gX5_publish_X5_puts rfl rfl rfl (by decide +kernel) ⟨Nat.le_of_ble_eq_true rfl, Nat.le_of_ble_eq_true rfl⟩) (zPreV hG (va_recv (q0 := 0) (ci := 5) hG.1 hP rfl rfl) (hP)) rfl rfl hl.1 rfl (lv_room (Nat.le_of_ble_eq_true rfl)) dX5_publish_43 ⟨Nat.le_of_ble_eq_true rfl, Nat.le_of_ble_eq_true rfl⟩) hP hD hS (wM_map ..) (fun H locs hP hD hS => ?_)
      have hP : va_P G.1 vwCl (wM G m (su σ (115 + 53 * k) ((rvn σ k) + 1)) V σ ns x len B) H := hP
      have hD : va_D (zA (wM G m σ V ζ ns x len B)) (wM G m (su σ (115 + 53 * k) ((rvn σ k) + 1)) V σ ns x len B) := hD
      refine lv_aload_n hx hb dX5_publish_46 rfl (lv_at hl 0 rfl) ?_
      refine lv_aload_n hx hb dX5_publish_47 rfl (lv_at hl 0 rfl) ?_
      refine lv_iload_n hx hb dX5_publish_48 rfl (lv_at hl 1 rfl) ?_
      refine lv_bipush (v := nI 50) hx hb dX5_publish_49 (by decide) ?_
      refine zrdV (As := [.int (nI k), .int (nI 50)]) ⟨hx, hb, hml, hown, hts⟩ (kX5_of l G m (su σ (115 + 53 * k) ((rvn σ k) + 1)) V σ ns x len B k 50 (by omega) (by omega) (by omega)) (cwV 2 hts gX5_publish_X5_of rfl rfl rfl (by decide +kernel) ⟨Nat.le_of_ble_eq_true rfl, Nat.le_of_ble_eq_true rfl⟩) hG (va_recv (q0 := 0) (ci := 5) hG.1 hP rfl rfl) (hP) rfl rfl hl.1 dX5_publish_51 (Nat.le_of_ble_eq_true rfl) ⟨Nat.le_of_ble_eq_true rfl, Nat.le_of_ble_eq_true rfl⟩ ?_
      refine zwrW (G := G) (wc := (wM G m (su σ (115 + 53 * k) ((rvn σ k) + 1)) V σ ns x len B)) (wc' := (wM G m (su σ (115 + 53 * k) ((rvn σ k) + 1)) (updv V ns σ) σ (nN ns) x len B)) (va_runV (As := [.int (nI ((su σ (115 + 53 * k) ((rvn σ k) + 1)) (64 + 53 * k + 50)))]) (rest := []) ⟨hx, hb, hml, hown, hts⟩ (kX5_records l G m (su σ (115 + 53 * k) ((rvn σ k) + 1)) V σ ns x len B (nI ((su σ (115 + 53 * k) ((rvn σ k) + 1)) (64 + 53 * k + 50))) (by omega) (zD_any hD)) (cwV 1 hts gX5_publish_X5_records rfl rfl rfl (by decide +kernel) ⟨Nat.le_of_ble_eq_true rfl, Nat.le_of_ble_eq_true rfl⟩) (zPreV hG (va_recv (q0 := 0) (ci := 5) hG.1 hP rfl rfl) (hP)) rfl rfl hl.1 rfl (lv_room (Nat.le_of_ble_eq_true rfl)) dX5_publish_54 ⟨Nat.le_of_ble_eq_true rfl, Nat.le_of_ble_eq_true rfl⟩) hP hD hS (wM_map ..) (fun H locs hP hD hS => ?_)
      have hP : va_P G.1 vwCl (wM G m (su σ (115 + 53 * k) ((rvn σ k) + 1)) (updv V ns σ) σ (nN ns) x len B) H := hP
      have hD : va_D (zA (wM G m σ V ζ ns x len B)) (wM G m (su σ (115 + 53 * k) ((rvn σ k) + 1)) (updv V ns σ) σ (nN ns) x len B) := hD
      exact hret _ _ _ _ _ dX5_publish_57 hS (hP) (by rw [su_ne _ _ (by omega)]; unfold rvn; rw [show 114 + 53 * k = 64 + 53 * k + 50 by omega])
    · skip
      have h22 : ¬ ((nEd σ k) ≤ (nAd σ k)) := fun q => h22 ((nI_leI (by omega) (by omega)).mpr q)
      exfalso; omega
  · skip
    have h5 : ¬ (0 ≤ (nI k) ∧ (nI k) < nI (nS σ)) := (z_b0).mp h5
    exact absurd hvs h5
set_option maxHeartbeats 4000000 in
set_option maxRecDepth 100000 in
theorem kX5_scale_inv (l : Launch) (G : zG) (m : Nat → Nat) (σ : Nat → Nat) (V : Nat → Nat → Nat) (ζ : Nat → Nat) (ns : Nat) (x : Nat → Nat) (len : Nat) (B : Nat → Int32) {N : Nat} (x1 : Int32) (x2 : Int32) (hO : Ok N σ) (hns : ns ≤ 4) (hv : ¬ ((0 ≤ x1 ∧ x1 < nI (nS σ)) ∧ (nI 1 ≤ x2 ∧ x2 ≤ nI 1000000))) (hd : va_D (fun _ => True) (wM G m σ V ζ ns x len B)) : Met l yX5_scale wsX5_scale (zRm 2 41) (zPc G [.ref (m 0), .int x1, .int x2] (va_P G.1 vwCl (wM G m σ V ζ ns x len B))) (zQ (zA (wM G m σ V ζ ns x len B)) (some (.int ((-1)))) (va_P G.1 vwCl (wM G m σ V ζ ns x len B))) 0 0 (zA (wM G m σ V ζ ns x len B)) := by
  refine zmkWi (w := (wM G m σ V ζ ns x len B)) hd (cc := cX5_scale) (maxL := 4) (by decide) rfl (Nat.le_of_ble_eq_true rfl) ?_
  intro pr en st mi ar bl me cd ls Q hx hb hml hown hts hG hP hl hD hS hret
  have hown : st.vm.findClass RX5 = some mi.cls := hown
  have hl : lv_has ls 4 [(0, .ref (m 0)), (1, .int x1), (2, .int x2)] := hl
  have hP : va_P G.1 vwCl (wM G m σ V ζ ns x len B) st.heap := hP
  have hD : va_D (zA (wM G m σ V ζ ns x len B)) (wM G m σ V ζ ns x len B) := hD
  have hc178 := hts (.constant RX5 178 (1000000)) (by decide +kernel)
  have hc := hO.c
  have hs := hO.lS
  have hr := hO.lR
  have hne := hO.lE
  refine lv_aload_n hx hb dX5_scale_0 rfl (lv_at hl 0 rfl) ?_
  refine lv_iload_n hx hb dX5_scale_1 rfl (lv_at hl 1 rfl) ?_
  refine zrdV (As := [.int x1]) ⟨hx, hb, hml, hown, hts⟩ (kX5_isSheet l G m σ V ζ ns x len B x1) (cwV 1 hts gX5_scale_X5_isSheet rfl rfl rfl (by decide +kernel) ⟨Nat.le_of_ble_eq_true rfl, Nat.le_of_ble_eq_true rfl⟩) hG (va_recv (q0 := 0) (ci := 5) hG.1 hP rfl rfl) (hP) rfl rfl hl.1 dX5_scale_2 (Nat.le_of_ble_eq_true rfl) ⟨Nat.le_of_ble_eq_true rfl, Nat.le_of_ble_eq_true rfl⟩ ?_
  refine lv_if_eq (tgt := 18) hx hb dX5_scale_5 (by decide) (fun h5 => ?_) (fun h5 => ?_)
  · skip
    have h5 : ¬ (0 ≤ x1 ∧ x1 < nI (nS σ)) := (z_b0).mp h5
    refine lv_iconst (v := (-1)) hx hb dX5_scale_18 (by decide) ?_
    exact hret _ _ _ _ _ dX5_scale_19 hS (hP) (rfl)
  · skip
    have h5 : ¬ (¬ (0 ≤ x1 ∧ x1 < nI (nS σ))) := fun q => h5 ((z_b0).mpr q)
    have h5 : 0 ≤ x1 ∧ x1 < nI (nS σ) := Decidable.of_not_not h5
    refine lv_iload_n hx hb dX5_scale_8 rfl (lv_at hl 2 rfl) ?_
    refine lv_iconst (v := nI 1) hx hb dX5_scale_9 (by decide) ?_
    refine lv_ldc hx hb hown hc178 dX5_scale_10 ?_
    refine lv_topi (nm_r (e' := nI 1000000) (by decide +kernel) ?_)
    refine zrdS (As := [.int x2, .int (nI 1), .int (nI 1000000)]) ⟨hx, hb, hml, hown, hts⟩ (kX5_in l G  x2 (nI 1) (nI 1000000)) (va_cwS 3 hts gX5_scale_X5_in rfl rfl rfl (by decide +kernel) ⟨Nat.le_of_ble_eq_true rfl, Nat.le_of_ble_eq_true rfl⟩) hG (trivial) rfl rfl hl.1 dX5_scale_12 (Nat.le_of_ble_eq_true rfl) ⟨Nat.le_of_ble_eq_true rfl, Nat.le_of_ble_eq_true rfl⟩ ?_
    refine lv_if_ne (tgt := 20) hx hb dX5_scale_15 (by decide) (fun h15 => ?_) (fun h15 => ?_)
    · skip
      have h15 : ¬ (¬ ((nI 1) ≤ x2 ∧ x2 ≤ (nI 1000000))) := fun q => h15 ((z_b0).mpr q)
      have h15 : (nI 1) ≤ x2 ∧ x2 ≤ (nI 1000000) := Decidable.of_not_not h15
      exact absurd ⟨h5, h15⟩ hv
    · skip
      have h15 : ¬ ((nI 1) ≤ x2 ∧ x2 ≤ (nI 1000000)) := (z_b0).mp h15
      refine lv_iconst (v := (-1)) hx hb dX5_scale_18 (by decide) ?_
      exact hret _ _ _ _ _ dX5_scale_19 hS (hP) (rfl)
set_option maxHeartbeats 4000000 in
set_option maxRecDepth 100000 in
theorem kX5_scale_ok (l : Launch) (G : zG) (m : Nat → Nat) (σ : Nat → Nat) (V : Nat → Nat → Nat) (ζ : Nat → Nat) (ns : Nat) (x : Nat → Nat) (len : Nat) (B : Nat → Int32) {N : Nat} (k : Nat) (v : Nat) (hO : Ok N σ) (hns : ns ≤ 4) (hk : k < nS σ) (hv1 : 1 ≤ v) (hv2 : v ≤ 1000000) (hd : va_D (fun _ => True) (wM G m σ V ζ ns x len B)) : Met l yX5_scale wsX5_scale (zRm 2 41) (zPc G [.ref (m 0), .int (nI k), .int (nI v)] (va_P G.1 vwCl (wM G m σ V ζ ns x len B))) (zQ (zA (wM G m σ V ζ ns x len B)) (some (.int (nI (scn σ k)))) (va_P G.1 vwCl (wM G m (su σ (116 + 53 * k) v) (updv V ns σ) σ (nN ns) x len B))) 0 0 (zA (wM G m σ V ζ ns x len B)) := by
  refine zmkWi (w := (wM G m σ V ζ ns x len B)) hd (cc := cX5_scale) (maxL := 4) (by decide) rfl (Nat.le_of_ble_eq_true rfl) ?_
  intro pr en st mi ar bl me cd ls Q hx hb hml hown hts hG hP hl hD hS hret
  have hown : st.vm.findClass RX5 = some mi.cls := hown
  have hl : lv_has ls 4 [(0, .ref (m 0)), (1, .int (nI k)), (2, .int (nI v))] := hl
  have hP : va_P G.1 vwCl (wM G m σ V ζ ns x len B) st.heap := hP
  have hD : va_D (zA (wM G m σ V ζ ns x len B)) (wM G m σ V ζ ns x len B) := hD
  have hc178 := hts (.constant RX5 178 (1000000)) (by decide +kernel)
  have hc := hO.c
  have hs := hO.lS
  have hr := hO.lR
  have hne := hO.lE
  have hvs : 0 ≤ nI k ∧ nI k < nI (nS σ) := z_in hk (by omega)
  have hvv : nI 1 ≤ nI v ∧ nI v ≤ nI 1000000 := ⟨nI_le hv1 (by omega), nI_le hv2 (by omega)⟩
  refine lv_aload_n hx hb dX5_scale_0 rfl (lv_at hl 0 rfl) ?_
  refine lv_iload_n hx hb dX5_scale_1 rfl (lv_at hl 1 rfl) ?_
  refine zrdV (As := [.int (nI k)]) ⟨hx, hb, hml, hown, hts⟩ (kX5_isSheet l G m σ V ζ ns x len B (nI k)) (cwV 1 hts gX5_scale_X5_isSheet rfl rfl rfl (by decide +kernel) ⟨Nat.le_of_ble_eq_true rfl, Nat.le_of_ble_eq_true rfl⟩) hG (va_recv (q0 := 0) (ci := 5) hG.1 hP rfl rfl) (hP) rfl rfl hl.1 dX5_scale_2 (Nat.le_of_ble_eq_true rfl) ⟨Nat.le_of_ble_eq_true rfl, Nat.le_of_ble_eq_true rfl⟩ ?_
  refine lv_if_eq (tgt := 18) hx hb dX5_scale_5 (by decide) (fun h5 => ?_) (fun h5 => ?_)
  · skip
    have h5 : ¬ (0 ≤ (nI k) ∧ (nI k) < nI (nS σ)) := (z_b0).mp h5
    exact absurd hvs h5
  · skip
    have h5 : ¬ (¬ (0 ≤ (nI k) ∧ (nI k) < nI (nS σ))) := fun q => h5 ((z_b0).mpr q)
    have h5 : 0 ≤ (nI k) ∧ (nI k) < nI (nS σ) := Decidable.of_not_not h5
    refine lv_iload_n hx hb dX5_scale_8 rfl (lv_at hl 2 rfl) ?_
    refine lv_iconst (v := nI 1) hx hb dX5_scale_9 (by decide) ?_
    refine lv_ldc hx hb hown hc178 dX5_scale_10 ?_
    refine lv_topi (nm_r (e' := nI 1000000) (by decide +kernel) ?_)
    refine zrdS (As := [.int (nI v), .int (nI 1), .int (nI 1000000)]) ⟨hx, hb, hml, hown, hts⟩ (kX5_in l G  (nI v) (nI 1) (nI 1000000)) (va_cwS 3 hts gX5_scale_X5_in rfl rfl rfl (by decide +kernel) ⟨Nat.le_of_ble_eq_true rfl, Nat.le_of_ble_eq_true rfl⟩) hG (trivial) rfl rfl hl.1 dX5_scale_12 (Nat.le_of_ble_eq_true rfl) ⟨Nat.le_of_ble_eq_true rfl, Nat.le_of_ble_eq_true rfl⟩ ?_
    refine lv_if_ne (tgt := 20) hx hb dX5_scale_15 (by decide) (fun h15 => ?_) (fun h15 => ?_)
    · skip
      have h15 : ¬ (¬ ((nI 1) ≤ (nI v) ∧ (nI v) ≤ (nI 1000000))) := fun q => h15 ((z_b0).mpr q)
      have h15 : (nI 1) ≤ (nI v) ∧ (nI v) ≤ (nI 1000000) := Decidable.of_not_not h15
      refine lv_aload_n hx hb dX5_scale_20 rfl (lv_at hl 0 rfl) ?_
      refine zwrWv (G := G) (wc := (wM G m σ V ζ ns x len B)) (wc' := (wM G m σ V σ ns x len B)) (va_runV (As := []) (rest := []) ⟨hx, hb, hml, hown, hts⟩ (kX5_hold l G m σ V ζ ns x len B (zD_any hD)) (cwV 0 hts gX5_scale_X5_hold rfl rfl rfl (by decide +kernel) ⟨Nat.le_of_ble_eq_true rfl, Nat.le_of_ble_eq_true rfl⟩) (zPreV hG (va_recv (q0 := 0) (ci := 5) hG.1 hP rfl rfl) (hP)) rfl rfl hl.1 rfl (lv_room (Nat.le_of_ble_eq_true rfl)) dX5_scale_21 ⟨Nat.le_of_ble_eq_true rfl, Nat.le_of_ble_eq_true rfl⟩) hP hD hS (wM_map ..) (fun H locs hP hD hS => ?_)
      have hP : va_P G.1 vwCl (wM G m σ V σ ns x len B) H := hP
      have hD : va_D (zA (wM G m σ V ζ ns x len B)) (wM G m σ V σ ns x len B) := hD
      refine lv_aload_n hx hb dX5_scale_24 rfl (lv_at hl 0 rfl) ?_
      refine lv_iload_n hx hb dX5_scale_25 rfl (lv_at hl 1 rfl) ?_
      refine lv_bipush (v := nI 52) hx hb dX5_scale_26 (by decide) ?_
      refine zrdV (As := [.int (nI k), .int (nI 52)]) ⟨hx, hb, hml, hown, hts⟩ (kX5_of l G m σ V σ ns x len B k 52 (by omega) (by omega) (by omega)) (cwV 2 hts gX5_scale_X5_of rfl rfl rfl (by decide +kernel) ⟨Nat.le_of_ble_eq_true rfl, Nat.le_of_ble_eq_true rfl⟩) hG (va_recv (q0 := 0) (ci := 5) hG.1 hP rfl rfl) (hP) rfl rfl hl.1 dX5_scale_28 (Nat.le_of_ble_eq_true rfl) ⟨Nat.le_of_ble_eq_true rfl, Nat.le_of_ble_eq_true rfl⟩ ?_
      refine lv_topi (nm_r (e' := nI (scn σ k)) (by unfold scn; rw [show 116 + 53 * k = 64 + 53 * k + 52 by omega]) ?_)
      refine lv_istore_n (lv' := [(3, .int (nI (scn σ k))), (0, .ref (m 0)), (1, .int (nI k)), (2, .int (nI v))]) hx hb dX5_scale_31 rfl hl (by decide) rfl (fun ls hl => ?_)
      refine lv_aload_n hx hb dX5_scale_32 rfl (lv_at hl 1 rfl) ?_
      refine lv_iload_n hx hb dX5_scale_33 rfl (lv_at hl 2 rfl) ?_
      refine lv_bipush (v := nI 52) hx hb dX5_scale_34 (by decide) ?_
      refine lv_iload_n hx hb dX5_scale_36 rfl (lv_at hl 3 rfl) ?_
      refine zwrWv (G := G) (wc := (wM G m σ V σ ns x len B)) (wc' := (wM G m (su σ (64 + 53 * k + 52) v) V σ ns x len B)) (va_runV (As := [.int (nI k), .int (nI 52), .int (nI v)]) (rest := []) ⟨hx, hb, hml, hown, hts⟩ (kX5_puts l G m σ V σ ns x len B k 52 v (by omega) (by omega) (by omega) (zD_any hD)) (cwV 3 hts gX5_scale_X5_puts rfl rfl rfl (by decide +kernel) ⟨Nat.le_of_ble_eq_true rfl, Nat.le_of_ble_eq_true rfl⟩) (zPreV hG (va_recv (q0 := 0) (ci := 5) hG.1 hP rfl rfl) (hP)) rfl rfl hl.1 rfl (lv_room (Nat.le_of_ble_eq_true rfl)) dX5_scale_37 ⟨Nat.le_of_ble_eq_true rfl, Nat.le_of_ble_eq_true rfl⟩) hP hD hS (wM_map ..) (fun H locs hP hD hS => ?_)
      have hP : va_P G.1 vwCl (wM G m (su σ (64 + 53 * k + 52) v) V σ ns x len B) H := hP
      have hD : va_D (zA (wM G m σ V ζ ns x len B)) (wM G m (su σ (64 + 53 * k + 52) v) V σ ns x len B) := hD
      rw [show 64 + 53 * k + 52 = 116 + 53 * k by omega] at hP hD
      have hP : va_P G.1 vwCl (wM G m (su σ (116 + 53 * k) v) V σ ns x len B) H := hP
      have hD : va_D (zA (wM G m σ V ζ ns x len B)) (wM G m (su σ (116 + 53 * k) v) V σ ns x len B) := hD
      refine lv_aload_n hx hb dX5_scale_40 rfl (lv_at hl 1 rfl) ?_
      refine lv_iload_n hx hb dX5_scale_41 rfl (lv_at hl 0 rfl) ?_
      refine zwrW (G := G) (wc := (wM G m (su σ (116 + 53 * k) v) V σ ns x len B)) (wc' := (wM G m (su σ (116 + 53 * k) v) (updv V ns σ) σ (nN ns) x len B)) (va_runV (As := [.int (nI (scn σ k))]) (rest := []) ⟨hx, hb, hml, hown, hts⟩ (kX5_records l G m (su σ (116 + 53 * k) v) V σ ns x len B (nI (scn σ k)) (by omega) (zD_any hD)) (cwV 1 hts gX5_scale_X5_records rfl rfl rfl (by decide +kernel) ⟨Nat.le_of_ble_eq_true rfl, Nat.le_of_ble_eq_true rfl⟩) (zPreV hG (va_recv (q0 := 0) (ci := 5) hG.1 hP rfl rfl) (hP)) rfl rfl hl.1 rfl (lv_room (Nat.le_of_ble_eq_true rfl)) dX5_scale_42 ⟨Nat.le_of_ble_eq_true rfl, Nat.le_of_ble_eq_true rfl⟩) hP hD hS (wM_map ..) (fun H locs hP hD hS => ?_)
      have hP : va_P G.1 vwCl (wM G m (su σ (116 + 53 * k) v) (updv V ns σ) σ (nN ns) x len B) H := hP
      have hD : va_D (zA (wM G m σ V ζ ns x len B)) (wM G m (su σ (116 + 53 * k) v) (updv V ns σ) σ (nN ns) x len B) := hD
      exact hret _ _ _ _ _ dX5_scale_45 hS (hP) (rfl)
    · skip
      have h15 : ¬ ((nI 1) ≤ (nI v) ∧ (nI v) ≤ (nI 1000000)) := (z_b0).mp h15
      exact absurd hvv h15
set_option maxHeartbeats 4000000 in
set_option maxRecDepth 100000 in
theorem kX5_stretched_inv (l : Launch) (G : zG) (m : Nat → Nat) (σ : Nat → Nat) (V : Nat → Nat → Nat) (ζ : Nat → Nat) (ns : Nat) (x : Nat → Nat) (len : Nat) (B : Nat → Int32) {N : Nat} (x1 : Int32) (x2 : Int32) (hO : Ok N σ) (hns : ns ≤ 4) (hv : ¬ ((0 ≤ x1 ∧ x1 < nI (nS σ)) ∧ (nI 0 ≤ x2 ∧ x2 ≤ nI 10000000))) (hd : va_D (fun _ => True) (wM G m σ V ζ ns x len B)) : Met l yX5_stretched wsX5_stretched (zRm 2 43) (zPc G [.ref (m 0), .int x1, .int x2] (va_P G.1 vwCl (wM G m σ V ζ ns x len B))) (zQ (zA (wM G m σ V ζ ns x len B)) (some (.int ((-1)))) (va_P G.1 vwCl (wM G m σ V ζ ns x len B))) 0 0 (zA (wM G m σ V ζ ns x len B)) := by
  refine zmkWi (w := (wM G m σ V ζ ns x len B)) hd (cc := cX5_stretched) (maxL := 3) (by decide) rfl (Nat.le_of_ble_eq_true rfl) ?_
  intro pr en st mi ar bl me cd ls Q hx hb hml hown hts hG hP hl hD hS hret
  have hown : st.vm.findClass RX5 = some mi.cls := hown
  have hl : lv_has ls 3 [(0, .ref (m 0)), (1, .int x1), (2, .int x2)] := hl
  have hP : va_P G.1 vwCl (wM G m σ V ζ ns x len B) st.heap := hP
  have hD : va_D (zA (wM G m σ V ζ ns x len B)) (wM G m σ V ζ ns x len B) := hD
  have hc179 := hts (.constant RX5 179 (10000000)) (by decide +kernel)
  have hc := hO.c
  have hs := hO.lS
  have hr := hO.lR
  have hne := hO.lE
  refine lv_aload_n hx hb dX5_stretched_0 rfl (lv_at hl 0 rfl) ?_
  refine lv_iload_n hx hb dX5_stretched_1 rfl (lv_at hl 1 rfl) ?_
  refine zrdV (As := [.int x1]) ⟨hx, hb, hml, hown, hts⟩ (kX5_isSheet l G m σ V ζ ns x len B x1) (cwV 1 hts gX5_stretched_X5_isSheet rfl rfl rfl (by decide +kernel) ⟨Nat.le_of_ble_eq_true rfl, Nat.le_of_ble_eq_true rfl⟩) hG (va_recv (q0 := 0) (ci := 5) hG.1 hP rfl rfl) (hP) rfl rfl hl.1 dX5_stretched_2 (Nat.le_of_ble_eq_true rfl) ⟨Nat.le_of_ble_eq_true rfl, Nat.le_of_ble_eq_true rfl⟩ ?_
  refine lv_if_eq (tgt := 30) hx hb dX5_stretched_5 (by decide) (fun h5 => ?_) (fun h5 => ?_)
  · skip
    have h5 : ¬ (0 ≤ x1 ∧ x1 < nI (nS σ)) := (z_b0).mp h5
    refine lv_iconst (v := (-1)) hx hb dX5_stretched_30 (by decide) ?_
    exact hret _ _ _ _ _ dX5_stretched_31 hS (hP) (rfl)
  · skip
    have h5 : ¬ (¬ (0 ≤ x1 ∧ x1 < nI (nS σ))) := fun q => h5 ((z_b0).mpr q)
    have h5 : 0 ≤ x1 ∧ x1 < nI (nS σ) := Decidable.of_not_not h5
    refine lv_iload_n hx hb dX5_stretched_8 rfl (lv_at hl 2 rfl) ?_
    refine lv_iconst (v := nI 0) hx hb dX5_stretched_9 (by decide) ?_
    refine lv_ldc hx hb hown hc179 dX5_stretched_10 ?_
    refine lv_topi (nm_r (e' := nI 10000000) (by decide +kernel) ?_)
    refine zrdS (As := [.int x2, .int (nI 0), .int (nI 10000000)]) ⟨hx, hb, hml, hown, hts⟩ (kX5_in l G  x2 (nI 0) (nI 10000000)) (va_cwS 3 hts gX5_stretched_X5_in rfl rfl rfl (by decide +kernel) ⟨Nat.le_of_ble_eq_true rfl, Nat.le_of_ble_eq_true rfl⟩) hG (trivial) rfl rfl hl.1 dX5_stretched_12 (Nat.le_of_ble_eq_true rfl) ⟨Nat.le_of_ble_eq_true rfl, Nat.le_of_ble_eq_true rfl⟩ ?_
    refine lv_if_eq (tgt := 30) hx hb dX5_stretched_15 (by decide) (fun h15 => ?_) (fun h15 => ?_)
    · skip
      have h15 : ¬ ((nI 0) ≤ x2 ∧ x2 ≤ (nI 10000000)) := (z_b0).mp h15
      refine lv_iconst (v := (-1)) hx hb dX5_stretched_30 (by decide) ?_
      exact hret _ _ _ _ _ dX5_stretched_31 hS (hP) (rfl)
    · skip
      have h15 : ¬ (¬ ((nI 0) ≤ x2 ∧ x2 ≤ (nI 10000000))) := fun q => h15 ((z_b0).mpr q)
      have h15 : (nI 0) ≤ x2 ∧ x2 ≤ (nI 10000000) := Decidable.of_not_not h15
      exact absurd ⟨h5, h15⟩ hv
set_option maxHeartbeats 4000000 in
set_option maxRecDepth 100000 in
theorem kX5_stretched_ok (l : Launch) (G : zG) (m : Nat → Nat) (σ : Nat → Nat) (V : Nat → Nat → Nat) (ζ : Nat → Nat) (ns : Nat) (x : Nat → Nat) (len : Nat) (B : Nat → Int32) {N : Nat} (k : Nat) (u : Nat) (hO : Ok N σ) (hns : ns ≤ 4) (hk : k < nS σ) (hu : u ≤ 10000000) (hd : va_D (fun _ => True) (wM G m σ V ζ ns x len B)) : Met l yX5_stretched wsX5_stretched (zRm 2 43) (zPc G [.ref (m 0), .int (nI k), .int (nI u)] (va_P G.1 vwCl (wM G m σ V ζ ns x len B))) (zQ (zA (wM G m σ V ζ ns x len B)) (some (.int (FP.f2i (FP.fmul (FP.i2f (nI u)) (fsc σ k))))) (va_P G.1 vwCl (wM G m σ V ζ ns x len B))) 0 0 (zA (wM G m σ V ζ ns x len B)) := by
  refine zmkWi (w := (wM G m σ V ζ ns x len B)) hd (cc := cX5_stretched) (maxL := 3) (by decide) rfl (Nat.le_of_ble_eq_true rfl) ?_
  intro pr en st mi ar bl me cd ls Q hx hb hml hown hts hG hP hl hD hS hret
  have hown : st.vm.findClass RX5 = some mi.cls := hown
  have hl : lv_has ls 3 [(0, .ref (m 0)), (1, .int (nI k)), (2, .int (nI u))] := hl
  have hP : va_P G.1 vwCl (wM G m σ V ζ ns x len B) st.heap := hP
  have hD : va_D (zA (wM G m σ V ζ ns x len B)) (wM G m σ V ζ ns x len B) := hD
  have hc179 := hts (.constant RX5 179 (10000000)) (by decide +kernel)
  have hc := hO.c
  have hs := hO.lS
  have hr := hO.lR
  have hne := hO.lE
  have hvs : 0 ≤ nI k ∧ nI k < nI (nS σ) := z_in hk (by omega)
  have hvv : nI 0 ≤ nI u ∧ nI u ≤ nI 10000000 := z_lem hu (by omega)
  refine lv_aload_n hx hb dX5_stretched_0 rfl (lv_at hl 0 rfl) ?_
  refine lv_iload_n hx hb dX5_stretched_1 rfl (lv_at hl 1 rfl) ?_
  refine zrdV (As := [.int (nI k)]) ⟨hx, hb, hml, hown, hts⟩ (kX5_isSheet l G m σ V ζ ns x len B (nI k)) (cwV 1 hts gX5_stretched_X5_isSheet rfl rfl rfl (by decide +kernel) ⟨Nat.le_of_ble_eq_true rfl, Nat.le_of_ble_eq_true rfl⟩) hG (va_recv (q0 := 0) (ci := 5) hG.1 hP rfl rfl) (hP) rfl rfl hl.1 dX5_stretched_2 (Nat.le_of_ble_eq_true rfl) ⟨Nat.le_of_ble_eq_true rfl, Nat.le_of_ble_eq_true rfl⟩ ?_
  refine lv_if_eq (tgt := 30) hx hb dX5_stretched_5 (by decide) (fun h5 => ?_) (fun h5 => ?_)
  · skip
    have h5 : ¬ (0 ≤ (nI k) ∧ (nI k) < nI (nS σ)) := (z_b0).mp h5
    exact absurd hvs h5
  · skip
    have h5 : ¬ (¬ (0 ≤ (nI k) ∧ (nI k) < nI (nS σ))) := fun q => h5 ((z_b0).mpr q)
    have h5 : 0 ≤ (nI k) ∧ (nI k) < nI (nS σ) := Decidable.of_not_not h5
    refine lv_iload_n hx hb dX5_stretched_8 rfl (lv_at hl 2 rfl) ?_
    refine lv_iconst (v := nI 0) hx hb dX5_stretched_9 (by decide) ?_
    refine lv_ldc hx hb hown hc179 dX5_stretched_10 ?_
    refine lv_topi (nm_r (e' := nI 10000000) (by decide +kernel) ?_)
    refine zrdS (As := [.int (nI u), .int (nI 0), .int (nI 10000000)]) ⟨hx, hb, hml, hown, hts⟩ (kX5_in l G  (nI u) (nI 0) (nI 10000000)) (va_cwS 3 hts gX5_stretched_X5_in rfl rfl rfl (by decide +kernel) ⟨Nat.le_of_ble_eq_true rfl, Nat.le_of_ble_eq_true rfl⟩) hG (trivial) rfl rfl hl.1 dX5_stretched_12 (Nat.le_of_ble_eq_true rfl) ⟨Nat.le_of_ble_eq_true rfl, Nat.le_of_ble_eq_true rfl⟩ ?_
    refine lv_if_eq (tgt := 30) hx hb dX5_stretched_15 (by decide) (fun h15 => ?_) (fun h15 => ?_)
    · skip
      have h15 : ¬ ((nI 0) ≤ (nI u) ∧ (nI u) ≤ (nI 10000000)) := (z_b0).mp h15
      exact absurd hvv h15
    · skip
      have h15 : ¬ (¬ ((nI 0) ≤ (nI u) ∧ (nI u) ≤ (nI 10000000))) := fun q => h15 ((z_b0).mpr q)
      have h15 : (nI 0) ≤ (nI u) ∧ (nI u) ≤ (nI 10000000) := Decidable.of_not_not h15
      refine lv_iload_n hx hb dX5_stretched_18 rfl (lv_at hl 2 rfl) ?_
      refine lv_i2f hx hb dX5_stretched_19 ?_
      refine lv_aload_n hx hb dX5_stretched_20 rfl (lv_at hl 0 rfl) ?_
      refine lv_iload_n hx hb dX5_stretched_21 rfl (lv_at hl 1 rfl) ?_
      refine zrdV (As := [.int (nI k)]) ⟨hx, hb, hml, hown, hts⟩ (kX5_scaleOf l G m σ V ζ ns x len B k (hO) (by omega)) (cwV 1 hts gX5_stretched_X5_scaleOf rfl rfl rfl (by decide +kernel) ⟨Nat.le_of_ble_eq_true rfl, Nat.le_of_ble_eq_true rfl⟩) hG (va_recv (q0 := 0) (ci := 5) hG.1 hP rfl rfl) (hP) rfl rfl hl.1 dX5_stretched_22 (Nat.le_of_ble_eq_true rfl) ⟨Nat.le_of_ble_eq_true rfl, Nat.le_of_ble_eq_true rfl⟩ ?_
      refine lv_fmul hx hb dX5_stretched_25 (fmul_ok (nI u) (hO.fs (show k < 36 by omega))) ?_
      refine lv_f2i hx hb dX5_stretched_26 ?_
      refine lv_goto (tgt := 31) hx hb dX5_stretched_27 (by decide) ?_
      exact hret _ _ _ _ _ dX5_stretched_31 hS (hP) (rfl)
set_option maxHeartbeats 4000000 in
set_option maxRecDepth 100000 in
theorem kX5_type_inv (l : Launch) (G : zG) (m : Nat → Nat) (σ : Nat → Nat) (V : Nat → Nat → Nat) (ζ : Nat → Nat) (ns : Nat) (x : Nat → Nat) (len : Nat) (B : Nat → Int32) {N : Nat} (x1 : Int32) (hO : Ok N σ) (hns : ns ≤ 4) (hv : ¬ (nI 32 ≤ x1 ∧ x1 ≤ nI 126)) (hd : va_D (fun _ => True) (wM G m σ V ζ ns x len B)) : Met l yX5_type wsX5_type (zRm 1 22) (zPc G [.ref (m 0), .int x1] (va_P G.1 vwCl (wM G m σ V ζ ns x len B))) (zQ (zA (wM G m σ V ζ ns x len B)) (some (.int ((-1)))) (va_P G.1 vwCl (wM G m σ V ζ ns x len B))) 0 0 (zA (wM G m σ V ζ ns x len B)) := by
  refine zmkWi (w := (wM G m σ V ζ ns x len B)) hd (cc := cX5_type) (maxL := 2) (by decide) rfl (Nat.le_of_ble_eq_true rfl) ?_
  intro pr en st mi ar bl me cd ls Q hx hb hml hown hts hG hP hl hD hS hret
  have hown : st.vm.findClass RX5 = some mi.cls := hown
  have hl : lv_has ls 2 [(0, .ref (m 0)), (1, .int x1)] := hl
  have hP : va_P G.1 vwCl (wM G m σ V ζ ns x len B) st.heap := hP
  have hD : va_D (zA (wM G m σ V ζ ns x len B)) (wM G m σ V ζ ns x len B) := hD
  have hc := hO.c
  have hs := hO.lS
  have hr := hO.lR
  have hne := hO.lE
  refine lv_iload_n hx hb dX5_type_0 rfl (lv_at hl 1 rfl) ?_
  refine lv_bipush (v := nI 32) hx hb dX5_type_1 (by decide) ?_
  refine lv_bipush (v := nI 126) hx hb dX5_type_3 (by decide) ?_
  refine zrdS (As := [.int x1, .int (nI 32), .int (nI 126)]) ⟨hx, hb, hml, hown, hts⟩ (kX5_in l G  x1 (nI 32) (nI 126)) (va_cwS 3 hts gX5_type_X5_in rfl rfl rfl (by decide +kernel) ⟨Nat.le_of_ble_eq_true rfl, Nat.le_of_ble_eq_true rfl⟩) hG (trivial) rfl rfl hl.1 dX5_type_5 (Nat.le_of_ble_eq_true rfl) ⟨Nat.le_of_ble_eq_true rfl, Nat.le_of_ble_eq_true rfl⟩ ?_
  refine lv_if_ne (tgt := 13) hx hb dX5_type_8 (by decide) (fun h8 => ?_) (fun h8 => ?_)
  · skip
    have h8 : ¬ (¬ ((nI 32) ≤ x1 ∧ x1 ≤ (nI 126))) := fun q => h8 ((z_b0).mpr q)
    have h8 : (nI 32) ≤ x1 ∧ x1 ≤ (nI 126) := Decidable.of_not_not h8
    exact absurd h8 hv
  · skip
    have h8 : ¬ ((nI 32) ≤ x1 ∧ x1 ≤ (nI 126)) := (z_b0).mp h8
    refine lv_iconst (v := (-1)) hx hb dX5_type_11 (by decide) ?_
    exact hret _ _ _ _ _ dX5_type_12 hS (hP) (rfl)
set_option maxHeartbeats 4000000 in
set_option maxRecDepth 100000 in
theorem kX5_type_full (l : Launch) (G : zG) (m : Nat → Nat) (σ : Nat → Nat) (V : Nat → Nat → Nat) (ζ : Nat → Nat) (ns : Nat) (x : Nat → Nat) (len : Nat) (B : Nat → Int32) {N : Nat} (c : Nat) (hO : Ok N σ) (hns : ns ≤ 4) (hlen : len ≤ 100) (hc1 : 32 ≤ c) (hc2 : c ≤ 126) (hq : len = 100) (hd : va_D (fun _ => True) (wM G m σ V ζ ns x len B)) : Met l yX5_type wsX5_type (zRm 1 22) (zPc G [.ref (m 0), .int (nI c)] (va_P G.1 vwCl (wM G m σ V ζ ns x len B))) (zQ (zA (wM G m σ V ζ ns x len B)) (some (.int ((-3)))) (va_P G.1 vwCl (wM G m σ V ζ ns x len B))) 0 0 (zA (wM G m σ V ζ ns x len B)) := by
  refine zmkWi (w := (wM G m σ V ζ ns x len B)) hd (cc := cX5_type) (maxL := 2) (by decide) rfl (Nat.le_of_ble_eq_true rfl) ?_
  intro pr en st mi ar bl me cd ls Q hx hb hml hown hts hG hP hl hD hS hret
  have hown : st.vm.findClass RX5 = some mi.cls := hown
  have hl : lv_has ls 2 [(0, .ref (m 0)), (1, .int (nI c))] := hl
  have hP : va_P G.1 vwCl (wM G m σ V ζ ns x len B) st.heap := hP
  have hD : va_D (zA (wM G m σ V ζ ns x len B)) (wM G m σ V ζ ns x len B) := hD
  have hinX5 : ∀ w ∈ wsX50, w ∈ wsX5_type := by decide +kernel
  have hf157 := hts (.fieldLink RX5 157 "MapSheetsModel" "typed" "I") (by decide +kernel)
  have hc := hO.c
  have hs := hO.lS
  have hr := hO.lR
  have hne := hO.lE
  have hvc : nI 32 ≤ nI c ∧ nI c ≤ nI 126 := ⟨nI_le hc1 (by omega), nI_le hc2 (by omega)⟩
  refine lv_iload_n hx hb dX5_type_0 rfl (lv_at hl 1 rfl) ?_
  refine lv_bipush (v := nI 32) hx hb dX5_type_1 (by decide) ?_
  refine lv_bipush (v := nI 126) hx hb dX5_type_3 (by decide) ?_
  refine zrdS (As := [.int (nI c), .int (nI 32), .int (nI 126)]) ⟨hx, hb, hml, hown, hts⟩ (kX5_in l G  (nI c) (nI 32) (nI 126)) (va_cwS 3 hts gX5_type_X5_in rfl rfl rfl (by decide +kernel) ⟨Nat.le_of_ble_eq_true rfl, Nat.le_of_ble_eq_true rfl⟩) hG (trivial) rfl rfl hl.1 dX5_type_5 (Nat.le_of_ble_eq_true rfl) ⟨Nat.le_of_ble_eq_true rfl, Nat.le_of_ble_eq_true rfl⟩ ?_
  refine lv_if_ne (tgt := 13) hx hb dX5_type_8 (by decide) (fun h8 => ?_) (fun h8 => ?_)
  · skip
    have h8 : ¬ (¬ ((nI 32) ≤ (nI c) ∧ (nI c) ≤ (nI 126))) := fun q => h8 ((z_b0).mpr q)
    have h8 : (nI 32) ≤ (nI c) ∧ (nI c) ≤ (nI 126) := Decidable.of_not_not h8
    refine lv_aload_n hx hb dX5_type_13 rfl (lv_at hl 0 rfl) ?_
    refine va_get (D := G.1) (ci := 5) (v := .int (nI len)) (C := RX5) (T := TX5) (N := 7) hx hb hts hinX5 hown hG.1 hP 0 rfl rfl 5 (by decide) hf157 (fun _ h9 => h9) rfl dX5_type_14 ?_
    refine lv_bipush (v := nI 100) hx hb dX5_type_17 (by decide) ?_
    refine lv_icmp_ne (tgt := 25) hx hb dX5_type_19 (by decide) (fun h19 => ?_) (fun h19 => ?_)
    · skip
      have h19 : ¬ (len = 100) := fun q => h19 ((nI_eq (by omega) (by omega)).mpr q)
      exfalso; omega
    · skip
      have h19 : len = 100 := (nI_eq (by omega) (by omega)).mp h19
      refine lv_bipush (v := (-3)) hx hb dX5_type_22 (by decide) ?_
      exact hret _ _ _ _ _ dX5_type_24 hS (hP) (rfl)
  · skip
    have h8 : ¬ ((nI 32) ≤ (nI c) ∧ (nI c) ≤ (nI 126)) := (z_b0).mp h8
    exact absurd hvc h8
set_option maxHeartbeats 4000000 in
set_option maxRecDepth 100000 in
theorem kX5_type_ok (l : Launch) (G : zG) (m : Nat → Nat) (σ : Nat → Nat) (V : Nat → Nat → Nat) (ζ : Nat → Nat) (ns : Nat) (x : Nat → Nat) (len : Nat) (B : Nat → Int32) {N : Nat} (c : Nat) (hO : Ok N σ) (hns : ns ≤ 4) (hlen : len ≤ 100) (hc1 : 32 ≤ c) (hc2 : c ≤ 126) (hq : len < 100) (hd : va_D (fun _ => True) (wM G m σ V ζ ns x len B)) : Met l yX5_type wsX5_type (zRm 1 22) (zPc G [.ref (m 0), .int (nI c)] (va_P G.1 vwCl (wM G m σ V ζ ns x len B))) (zQ (zA (wM G m σ V ζ ns x len B)) (some (.int (nI (len + 1)))) (va_P G.1 vwCl (wM G m σ V ζ ns (su x len c) (len + 1) B))) 0 0 (zA (wM G m σ V ζ ns x len B)) := by
  refine zmkWi (w := (wM G m σ V ζ ns x len B)) hd (cc := cX5_type) (maxL := 2) (by decide) rfl (Nat.le_of_ble_eq_true rfl) ?_
  intro pr en st mi ar bl me cd ls Q hx hb hml hown hts hG hP hl hD hS hret
  have hown : st.vm.findClass RX5 = some mi.cls := hown
  have hl : lv_has ls 2 [(0, .ref (m 0)), (1, .int (nI c))] := hl
  have hP : va_P G.1 vwCl (wM G m σ V ζ ns x len B) st.heap := hP
  have hD : va_D (zA (wM G m σ V ζ ns x len B)) (wM G m σ V ζ ns x len B) := hD
  have hinX5 : ∀ w ∈ wsX50, w ∈ wsX5_type := by decide +kernel
  have hf157 := hts (.fieldLink RX5 157 "MapSheetsModel" "typed" "I") (by decide +kernel)
  have hf19 := hts (.fieldLink RX5 19 "MapSheetsModel" "text" "[I") (by decide +kernel)
  have hc := hO.c
  have hs := hO.lS
  have hr := hO.lR
  have hne := hO.lE
  have hvc : nI 32 ≤ nI c ∧ nI c ≤ nI 126 := ⟨nI_le hc1 (by omega), nI_le hc2 (by omega)⟩
  refine lv_iload_n hx hb dX5_type_0 rfl (lv_at hl 1 rfl) ?_
  refine lv_bipush (v := nI 32) hx hb dX5_type_1 (by decide) ?_
  refine lv_bipush (v := nI 126) hx hb dX5_type_3 (by decide) ?_
  refine zrdS (As := [.int (nI c), .int (nI 32), .int (nI 126)]) ⟨hx, hb, hml, hown, hts⟩ (kX5_in l G  (nI c) (nI 32) (nI 126)) (va_cwS 3 hts gX5_type_X5_in rfl rfl rfl (by decide +kernel) ⟨Nat.le_of_ble_eq_true rfl, Nat.le_of_ble_eq_true rfl⟩) hG (trivial) rfl rfl hl.1 dX5_type_5 (Nat.le_of_ble_eq_true rfl) ⟨Nat.le_of_ble_eq_true rfl, Nat.le_of_ble_eq_true rfl⟩ ?_
  refine lv_if_ne (tgt := 13) hx hb dX5_type_8 (by decide) (fun h8 => ?_) (fun h8 => ?_)
  · skip
    have h8 : ¬ (¬ ((nI 32) ≤ (nI c) ∧ (nI c) ≤ (nI 126))) := fun q => h8 ((z_b0).mpr q)
    have h8 : (nI 32) ≤ (nI c) ∧ (nI c) ≤ (nI 126) := Decidable.of_not_not h8
    refine lv_aload_n hx hb dX5_type_13 rfl (lv_at hl 0 rfl) ?_
    refine va_get (D := G.1) (ci := 5) (v := .int (nI len)) (C := RX5) (T := TX5) (N := 7) hx hb hts hinX5 hown hG.1 hP 0 rfl rfl 5 (by decide) hf157 (fun _ h9 => h9) rfl dX5_type_14 ?_
    refine lv_bipush (v := nI 100) hx hb dX5_type_17 (by decide) ?_
    refine lv_icmp_ne (tgt := 25) hx hb dX5_type_19 (by decide) (fun h19 => ?_) (fun h19 => ?_)
    · skip
      have h19 : ¬ (len = 100) := fun q => h19 ((nI_eq (by omega) (by omega)).mpr q)
      refine lv_aload_n hx hb dX5_type_25 rfl (lv_at hl 0 rfl) ?_
      refine va_get (D := G.1) (ci := 5) (v := .ref (m 4)) (C := RX5) (T := TX5) (N := 7) hx hb hts hinX5 hown hG.1 hP 0 rfl rfl 4 (by decide) hf19 (fun _ h9 => h9) rfl dX5_type_26 ?_
      refine lv_aload_n hx hb dX5_type_29 rfl (lv_at hl 0 rfl) ?_
      refine va_get (D := G.1) (ci := 5) (v := .int (nI len)) (C := RX5) (T := TX5) (N := 7) hx hb hts hinX5 hown hG.1 hP 0 rfl rfl 5 (by decide) hf157 (fun _ h9 => h9) rfl dX5_type_30 ?_
      refine lv_iload_n hx hb dX5_type_33 rfl (lv_at hl 1 rfl) ?_
      refine va_iast hx hb hG.1 hP hD hS 4 0 rfl rfl (vp_in_nI (n := len) (N := 100) (by omega) (by omega)) dX5_type_34 (fun H locs hP hD hS => ?_)
      rw [nI_clamp (show len < 2 ^ 31 by omega)] at hP hD
      have hP : va_P G.1 vwCl [(m 0, .inr (5, [.ref (m 1), .ref (m 2), .ref (m 3), .int (nI ns), .ref (m 4), .int (nI len), .ref (m 5)])), (m 1, .inl (G.2.1, 1972, .inl (sF σ))), (m 2, .inl (G.2.1, 7888, .inl (wF V))), (m 3, .inl (G.2.1, 1972, .inl (sF ζ))), (m 4, .inl (G.2.1, 100, .inl (upd (fun i => nI (x i)) len (nI c)))), (m 5, .inl (G.2.1, 36, .inl B))] H := hP
      have hD : va_D (zA (wM G m σ V ζ ns x len B)) [(m 0, .inr (5, [.ref (m 1), .ref (m 2), .ref (m 3), .int (nI ns), .ref (m 4), .int (nI len), .ref (m 5)])), (m 1, .inl (G.2.1, 1972, .inl (sF σ))), (m 2, .inl (G.2.1, 7888, .inl (wF V))), (m 3, .inl (G.2.1, 1972, .inl (sF ζ))), (m 4, .inl (G.2.1, 100, .inl (upd (fun i => nI (x i)) len (nI c)))), (m 5, .inl (G.2.1, 36, .inl B))] := hD
      refine lv_aload_n hx hb dX5_type_35 rfl (lv_at hl 0 rfl) ?_
      refine lv_dup hx hb dX5_type_36 rfl ?_
      refine va_get (D := G.1) (ci := 5) (v := .int (nI len)) (C := RX5) (T := TX5) (N := 7) hx hb hts hinX5 hown hG.1 hP 0 rfl rfl 5 (by decide) hf157 (fun _ h9 => h9) rfl dX5_type_37 ?_
      refine lv_iconst (v := nI 1) hx hb dX5_type_40 (by decide) ?_
      refine lv_iadd hx hb dX5_type_41 ?_
      refine lv_topi (nm_r (e' := nI (len + 1)) (nI_add _ _) ?_)
      refine va_put (D := G.1) (ci := 5) (v := .int (nI (len + 1))) (ty := .int) (C := RX5) (T := TX5) (N := 7) hx hb hts hinX5 tyX5 tyX5_ok nmX5 hown hG.1 hP hD hS 0 rfl rfl 5 (by decide) hf157 (fun _ h9 => h9) rfl (by decide +kernel) rfl rfl (Nat.le_of_ble_eq_true rfl) dX5_type_42 (fun H locs hP hD hS => ?_)
      have hP : va_P G.1 vwCl [(m 0, .inr (5, [.ref (m 1), .ref (m 2), .ref (m 3), .int (nI ns), .ref (m 4), .int (nI (len + 1)), .ref (m 5)])), (m 1, .inl (G.2.1, 1972, .inl (sF σ))), (m 2, .inl (G.2.1, 7888, .inl (wF V))), (m 3, .inl (G.2.1, 1972, .inl (sF ζ))), (m 4, .inl (G.2.1, 100, .inl (upd (fun i => nI (x i)) len (nI c)))), (m 5, .inl (G.2.1, 36, .inl B))] H := hP
      have hD : va_D (zA (wM G m σ V ζ ns x len B)) [(m 0, .inr (5, [.ref (m 1), .ref (m 2), .ref (m 3), .int (nI ns), .ref (m 4), .int (nI (len + 1)), .ref (m 5)])), (m 1, .inl (G.2.1, 1972, .inl (sF σ))), (m 2, .inl (G.2.1, 7888, .inl (wF V))), (m 3, .inl (G.2.1, 1972, .inl (sF ζ))), (m 4, .inl (G.2.1, 100, .inl (upd (fun i => nI (x i)) len (nI c)))), (m 5, .inl (G.2.1, 36, .inl B))] := hD
      refine lv_aload_n hx hb dX5_type_45 rfl (lv_at hl 0 rfl) ?_
      refine va_get (D := G.1) (ci := 5) (v := .int (nI (len + 1))) (C := RX5) (T := TX5) (N := 7) hx hb hts hinX5 hown hG.1 hP 0 rfl rfl 5 (by decide) hf157 (fun _ h9 => h9) rfl dX5_type_46 ?_
      exact hret _ _ _ _ _ dX5_type_49 hS (by unfold wM; rw [← upd_nI]; exact hP) (congrArg nI (rfl))
    · skip
      have h19 : len = 100 := (nI_eq (by omega) (by omega)).mp h19
      exfalso; omega
  · skip
    have h8 : ¬ ((nI 32) ≤ (nI c) ∧ (nI c) ≤ (nI 126)) := (z_b0).mp h8
    exact absurd hvc h8
set_option maxHeartbeats 4000000 in
set_option maxRecDepth 100000 in
theorem kX5_clearText_ok (l : Launch) (G : zG) (m : Nat → Nat) (σ : Nat → Nat) (V : Nat → Nat → Nat) (ζ : Nat → Nat) (ns : Nat) (x : Nat → Nat) (len : Nat) (B : Nat → Int32) {N : Nat}  (hO : Ok N σ) (hns : ns ≤ 4) (hlen : len ≤ 100) (htx : ∀ i, i < 100 → x i < 65536) (hd : va_D (fun _ => True) (wM G m σ V ζ ns x len B)) : Met l yX5_clearText wsX5_clearText (zRm 0 0) (zPc G [.ref (m 0)] (va_P G.1 vwCl (wM G m σ V ζ ns x len B))) (zQ (zA (wM G m σ V ζ ns x len B)) (some (.int (nI (len)))) (va_P G.1 vwCl (wM G m σ V ζ ns x 0 B))) 0 0 (zA (wM G m σ V ζ ns x len B)) := by
  refine zmkWi (w := (wM G m σ V ζ ns x len B)) hd (cc := cX5_clearText) (maxL := 2) (by decide) rfl (Nat.le_of_ble_eq_true rfl) ?_
  intro pr en st mi ar bl me cd ls Q hx hb hml hown hts hG hP hl hD hS hret
  have hown : st.vm.findClass RX5 = some mi.cls := hown
  have hl : lv_has ls 2 [(0, .ref (m 0))] := hl
  have hP : va_P G.1 vwCl (wM G m σ V ζ ns x len B) st.heap := hP
  have hD : va_D (zA (wM G m σ V ζ ns x len B)) (wM G m σ V ζ ns x len B) := hD
  have hinX5 : ∀ w ∈ wsX50, w ∈ wsX5_clearText := by decide +kernel
  have hf157 := hts (.fieldLink RX5 157 "MapSheetsModel" "typed" "I") (by decide +kernel)
  have hc := hO.c
  have hs := hO.lS
  have hr := hO.lR
  have hne := hO.lE
  refine lv_aload_n hx hb dX5_clearText_0 rfl (lv_at hl 0 rfl) ?_
  refine va_get (D := G.1) (ci := 5) (v := .int (nI len)) (C := RX5) (T := TX5) (N := 7) hx hb hts hinX5 hown hG.1 hP 0 rfl rfl 5 (by decide) hf157 (fun _ h9 => h9) rfl dX5_clearText_1 ?_
  refine lv_istore_n (lv' := [(1, .int (nI len)), (0, .ref (m 0))]) hx hb dX5_clearText_4 rfl hl (by decide) rfl (fun ls hl => ?_)
  refine lv_aload_n hx hb dX5_clearText_5 rfl (lv_at hl 1 rfl) ?_
  refine lv_iconst (v := nI 0) hx hb dX5_clearText_6 (by decide) ?_
  refine va_put (D := G.1) (ci := 5) (v := .int (nI 0)) (ty := .int) (C := RX5) (T := TX5) (N := 7) hx hb hts hinX5 tyX5 tyX5_ok nmX5 hown hG.1 hP hD hS 0 rfl rfl 5 (by decide) hf157 (fun _ h9 => h9) rfl (by decide +kernel) rfl rfl (Nat.le_of_ble_eq_true rfl) dX5_clearText_7 (fun H locs hP hD hS => ?_)
  have hP : va_P G.1 vwCl [(m 0, .inr (5, [.ref (m 1), .ref (m 2), .ref (m 3), .int (nI ns), .ref (m 4), .int (nI 0), .ref (m 5)])), (m 1, .inl (G.2.1, 1972, .inl (sF σ))), (m 2, .inl (G.2.1, 7888, .inl (wF V))), (m 3, .inl (G.2.1, 1972, .inl (sF ζ))), (m 4, .inl (G.2.1, 100, .inl (fun i => nI (x i)))), (m 5, .inl (G.2.1, 36, .inl B))] H := hP
  have hD : va_D (zA (wM G m σ V ζ ns x len B)) [(m 0, .inr (5, [.ref (m 1), .ref (m 2), .ref (m 3), .int (nI ns), .ref (m 4), .int (nI 0), .ref (m 5)])), (m 1, .inl (G.2.1, 1972, .inl (sF σ))), (m 2, .inl (G.2.1, 7888, .inl (wF V))), (m 3, .inl (G.2.1, 1972, .inl (sF ζ))), (m 4, .inl (G.2.1, 100, .inl (fun i => nI (x i)))), (m 5, .inl (G.2.1, 36, .inl B))] := hD
  refine lv_iload_n hx hb dX5_clearText_10 rfl (lv_at hl 0 rfl) ?_
  exact hret _ _ _ _ _ dX5_clearText_11 hS (hP) (congrArg nI (rfl))
