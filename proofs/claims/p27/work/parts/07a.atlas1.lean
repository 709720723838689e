set_option maxHeartbeats 4000000 in
set_option maxRecDepth 100000 in
/-- isWithin -/
theorem kX4_isWithin (l : Launch) (G : zG)  (x : Int32) (lo : Int32) (hi : Int32)  : Met l yX4_isWithin wsX4_isWithin (zRm 0 0) (zPc G [.int x, .int lo, .int hi] (fun _ => True)) (zS (.int (if lo ≤ x ∧ x ≤ hi then 1 else 0))) 0 0 (fun _ => False) := by
  refine zmkZ (cc := cX4_isWithin) (maxL := 3) (by decide) rfl (Nat.le_of_ble_eq_true rfl) ?_
  intro pr en st mi ar bl me cd ls Q hx hb hml hown hts hG hP hl hret
  have hown : st.vm.findClass RX4 = some mi.cls := hown
  have hl : lv_has ls 3 [(0, .int x), (1, .int lo), (2, .int hi)] := hl
  refine lv_iload_n hx hb dX4_isWithin_0 rfl (lv_at hl 0 rfl) ?_
  refine lv_iload_n hx hb dX4_isWithin_1 rfl (lv_at hl 1 rfl) ?_
  refine lv_icmp_lt (tgt := 14) hx hb dX4_isWithin_2 (by decide) (fun h2 => ?_) (fun h2 => ?_)
  · skip
    refine lv_iconst (v := nI 0) hx hb dX4_isWithin_14 (by decide) ?_
    exact hret _ _ _ dX4_isWithin_15 (z_f (by simp only [Int32.le_iff_toInt_le, Int32.lt_iff_toInt_lt] at h2 ⊢; omega))
  · skip
    refine lv_iload_n hx hb dX4_isWithin_5 rfl (lv_at hl 0 rfl) ?_
    refine lv_iload_n hx hb dX4_isWithin_6 rfl (lv_at hl 2 rfl) ?_
    refine lv_icmp_gt (tgt := 14) hx hb dX4_isWithin_7 (by decide) (fun h7 => ?_) (fun h7 => ?_)
    · skip
      refine lv_iconst (v := nI 0) hx hb dX4_isWithin_14 (by decide) ?_
      exact hret _ _ _ dX4_isWithin_15 (z_f (by simp only [Int32.le_iff_toInt_le, Int32.lt_iff_toInt_lt] at h2 h7 ⊢; omega))
    · skip
      refine lv_iconst (v := nI 1) hx hb dX4_isWithin_10 (by decide) ?_
      refine lv_goto (tgt := 15) hx hb dX4_isWithin_11 (by decide) ?_
      exact hret _ _ _ dX4_isWithin_15 (z_t (by simp only [Int32.le_iff_toInt_le, Int32.lt_iff_toInt_lt] at h2 h7 ⊢; omega))
set_option maxHeartbeats 4000000 in
set_option maxRecDepth 100000 in
theorem kX4_valueAt (l : Launch) (G : zG) (q n : Nat) (f : Nat → Int32) (j : Nat) (o : Int32) (hj : j < n) (hn : n < 2 ^ 31) : Met l yX4_valueAt wsX4_valueAt (zRm 0 0) (zPc G [.ref q, .int (nI j), .int o] (fun H => va_P G.1 vwCl [(q, .inl (G.2.1, n, .inl f))] H)) (zS (.int (f j))) 0 0 (fun _ => False) := by
  refine zmkI (cc := cX4_valueAt) (maxL := 3) (by decide) rfl (Nat.le_of_ble_eq_true rfl) ?_
  intro pr en st mi ar bl me cd ls Q hx hb hml hown hts hG hP hl hret
  have hl : lv_has ls 3 [(0, .ref q), (1, .int (nI j)), (2, .int o)] := hl
  refine lv_iload_n hx hb dX4_valueAt_0 rfl (lv_at hl 1 rfl) ?_
  refine lv_if_lt (tgt := 16) hx hb dX4_valueAt_1 (by decide) (fun h1 => ?_) (fun h1 => ?_)
  · skip
    have h1 : False := (z_lt0 (by omega)).mp h1
    exfalso; omega
  · skip
    have h1 : ¬ (False) := fun q => h1 ((z_lt0 (by omega)).mpr q)
    refine lv_iload_n hx hb dX4_valueAt_4 rfl (lv_at hl 1 rfl) ?_
    refine lv_aload_n hx hb dX4_valueAt_5 rfl (lv_at hl 0 rfl) ?_
    refine va_alen (v := nI n) hx hb hG.1 hP 0 0 rfl rfl rfl dX4_valueAt_6 ?_
    refine lv_icmp_ge (tgt := 16) hx hb dX4_valueAt_7 (by decide) (fun h7 => ?_) (fun h7 => ?_)
    · skip
      have h7 : n ≤ j := (nI_leI (by omega) (by omega)).mp h7
      exfalso; omega
    · skip
      have h7 : ¬ (n ≤ j) := fun q => h7 ((nI_leI (by omega) (by omega)).mpr q)
      refine lv_aload_n hx hb dX4_valueAt_10 rfl (lv_at hl 0 rfl) ?_
      refine lv_iload_n hx hb dX4_valueAt_11 rfl (lv_at hl 1 rfl) ?_
      refine va_iald hx hb hG.1 hP 0 0 rfl rfl (vp_in_nI (n := j) (N := n) (by omega) (by omega)) dX4_valueAt_12 ?_
      refine lv_topi (nm_r (e' := f j) (by rw [nI_clamp (by omega)]) ?_)
      refine lv_goto (tgt := 17) hx hb dX4_valueAt_13 (by decide) ?_
      exact hret _ _ _ dX4_valueAt_17 (rfl)
set_option maxHeartbeats 4000000 in
set_option maxRecDepth 100000 in
theorem kX4_valueAt_no (l : Launch) (G : zG) (q n : Nat) (f : Nat → Int32) (j : Int32) (o : Int32) (hj : j < 0) : Met l yX4_valueAt wsX4_valueAt (zRm 0 0) (zPc G [.ref q, .int j, .int o] (fun H => va_P G.1 vwCl [(q, .inl (G.2.1, n, .inl f))] H)) (zS (.int (o))) 0 0 (fun _ => False) := by
  refine zmkI (cc := cX4_valueAt) (maxL := 3) (by decide) rfl (Nat.le_of_ble_eq_true rfl) ?_
  intro pr en st mi ar bl me cd ls Q hx hb hml hown hts hG hP hl hret
  have hl : lv_has ls 3 [(0, .ref q), (1, .int j), (2, .int o)] := hl
  refine lv_iload_n hx hb dX4_valueAt_0 rfl (lv_at hl 1 rfl) ?_
  refine lv_if_lt (tgt := 16) hx hb dX4_valueAt_1 (by decide) (fun h1 => ?_) (fun h1 => ?_)
  · skip
    refine lv_iload_n hx hb dX4_valueAt_16 rfl (lv_at hl 2 rfl) ?_
    exact hret _ _ _ dX4_valueAt_17 (rfl)
  · skip
    exact absurd hj h1
set_option maxHeartbeats 4000000 in
set_option maxRecDepth 100000 in
theorem kX0_guardValue (l : Launch) (G : zG) (a : Nat → Nat) (σ : Nat → Nat)   : Met l yX0_guardValue wsX0_guardValue (zRm 0 0) (zPc G [.ref (a 0)] (va_P G.1 vwCl (wA G a σ))) (zS (.int (nI (σ 2)))) 0 0 (fun _ => False) := by
  refine zmkI (cc := cX0_guardValue) (maxL := 1) (by decide) rfl (Nat.le_of_ble_eq_true rfl) ?_
  intro pr en st mi ar bl me cd ls Q hx hb hml hown hts hG hP hl hret
  have hown : st.vm.findClass RX0 = some mi.cls := hown
  have hl : lv_has ls 1 [(0, .ref (a 0))] := hl
  have hP : va_P G.1 vwCl (wA G a σ) st.heap := hP
  have hinX0 : ∀ w ∈ wsX00, w ∈ wsX0_guardValue := by decide +kernel
  have hf30 := hts (.fieldLink RX0 30 "MapSheets$Atlas" "guard" "I") (by decide +kernel)
  refine lv_aload_n hx hb dX0_guardValue_0 rfl (lv_at hl 0 rfl) ?_
  refine va_get (D := G.1) (ci := 0) (v := .int (nI (σ 2))) (C := RX0) (T := TX0) (N := 10) hx hb hts hinX0 hown hG.1 hP 0 rfl rfl 8 (by decide) hf30 (fun _ h9 => h9) rfl dX0_guardValue_1 ?_
  exact hret _ _ _ dX0_guardValue_4 (congrArg nI (rfl))
set_option maxHeartbeats 4000000 in
set_option maxRecDepth 100000 in
theorem kX0_toleranceValue (l : Launch) (G : zG) (a : Nat → Nat) (σ : Nat → Nat)   : Met l yX0_toleranceValue wsX0_toleranceValue (zRm 0 0) (zPc G [.ref (a 0)] (va_P G.1 vwCl (wA G a σ))) (zS (.int (nI (σ 3)))) 0 0 (fun _ => False) := by
  refine zmkI (cc := cX0_toleranceValue) (maxL := 1) (by decide) rfl (Nat.le_of_ble_eq_true rfl) ?_
  intro pr en st mi ar bl me cd ls Q hx hb hml hown hts hG hP hl hret
  have hown : st.vm.findClass RX0 = some mi.cls := hown
  have hl : lv_has ls 1 [(0, .ref (a 0))] := hl
  have hP : va_P G.1 vwCl (wA G a σ) st.heap := hP
  have hinX0 : ∀ w ∈ wsX00, w ∈ wsX0_toleranceValue := by decide +kernel
  have hf34 := hts (.fieldLink RX0 34 "MapSheets$Atlas" "tolerance" "I") (by decide +kernel)
  refine lv_aload_n hx hb dX0_toleranceValue_0 rfl (lv_at hl 0 rfl) ?_
  refine va_get (D := G.1) (ci := 0) (v := .int (nI (σ 3))) (C := RX0) (T := TX0) (N := 10) hx hb hts hinX0 hown hG.1 hP 0 rfl rfl 9 (by decide) hf34 (fun _ h9 => h9) rfl dX0_toleranceValue_1 ?_
  exact hret _ _ _ dX0_toleranceValue_4 (congrArg nI (rfl))
set_option maxHeartbeats 4000000 in
set_option maxRecDepth 100000 in
theorem kX0_columnCount (l : Launch) (G : zG) (a : Nat → Nat) (σ : Nat → Nat)   : Met l yX0_columnCount wsX0_columnCount (zRm 0 0) (zPc G [.ref (a 0)] (va_P G.1 vwCl (wA G a σ))) (zS (.int (nI (σ 0)))) 0 0 (fun _ => False) := by
  refine zmkI (cc := cX0_columnCount) (maxL := 1) (by decide) rfl (Nat.le_of_ble_eq_true rfl) ?_
  intro pr en st mi ar bl me cd ls Q hx hb hml hown hts hG hP hl hret
  have hown : st.vm.findClass RX0 = some mi.cls := hown
  have hl : lv_has ls 1 [(0, .ref (a 0))] := hl
  have hP : va_P G.1 vwCl (wA G a σ) st.heap := hP
  have hinX0 : ∀ w ∈ wsX00, w ∈ wsX0_columnCount := by decide +kernel
  have hf41 := hts (.fieldLink RX0 41 "MapSheets$Atlas" "columns" "I") (by decide +kernel)
  refine lv_aload_n hx hb dX0_columnCount_0 rfl (lv_at hl 0 rfl) ?_
  refine va_get (D := G.1) (ci := 0) (v := .int (nI (σ 0))) (C := RX0) (T := TX0) (N := 10) hx hb hts hinX0 hown hG.1 hP 0 rfl rfl 6 (by decide) hf41 (fun _ h9 => h9) rfl dX0_columnCount_1 ?_
  exact hret _ _ _ dX0_columnCount_4 (congrArg nI (rfl))
set_option maxHeartbeats 4000000 in
set_option maxRecDepth 100000 in
theorem kX0_rowCount (l : Launch) (G : zG) (a : Nat → Nat) (σ : Nat → Nat)   : Met l yX0_rowCount wsX0_rowCount (zRm 0 0) (zPc G [.ref (a 0)] (va_P G.1 vwCl (wA G a σ))) (zS (.int (nI (σ 1)))) 0 0 (fun _ => False) := by
  refine zmkI (cc := cX0_rowCount) (maxL := 1) (by decide) rfl (Nat.le_of_ble_eq_true rfl) ?_
  intro pr en st mi ar bl me cd ls Q hx hb hml hown hts hG hP hl hret
  have hown : st.vm.findClass RX0 = some mi.cls := hown
  have hl : lv_has ls 1 [(0, .ref (a 0))] := hl
  have hP : va_P G.1 vwCl (wA G a σ) st.heap := hP
  have hinX0 : ∀ w ∈ wsX00, w ∈ wsX0_rowCount := by decide +kernel
  have hf44 := hts (.fieldLink RX0 44 "MapSheets$Atlas" "rows" "I") (by decide +kernel)
  refine lv_aload_n hx hb dX0_rowCount_0 rfl (lv_at hl 0 rfl) ?_
  refine va_get (D := G.1) (ci := 0) (v := .int (nI (σ 1))) (C := RX0) (T := TX0) (N := 10) hx hb hts hinX0 hown hG.1 hP 0 rfl rfl 7 (by decide) hf44 (fun _ h9 => h9) rfl dX0_rowCount_1 ?_
  exact hret _ _ _ dX0_rowCount_4 (congrArg nI (rfl))
set_option maxHeartbeats 4000000 in
set_option maxRecDepth 100000 in
theorem kX0_sheetCount (l : Launch) (G : zG) (a : Nat → Nat) (σ : Nat → Nat)   : Met l yX0_sheetCount wsX0_sheetCount (zRm 0 0) (zPc G [.ref (a 0)] (va_P G.1 vwCl (wA G a σ))) (zS (.int (nI (nS σ)))) 0 0 (fun _ => False) := by
  refine zmkI (cc := cX0_sheetCount) (maxL := 1) (by decide) rfl (Nat.le_of_ble_eq_true rfl) ?_
  intro pr en st mi ar bl me cd ls Q hx hb hml hown hts hG hP hl hret
  have hown : st.vm.findClass RX0 = some mi.cls := hown
  have hl : lv_has ls 1 [(0, .ref (a 0))] := hl
  have hP : va_P G.1 vwCl (wA G a σ) st.heap := hP
  have hinX0 : ∀ w ∈ wsX00, w ∈ wsX0_sheetCount := by decide +kernel
  have hf41 := hts (.fieldLink RX0 41 "MapSheets$Atlas" "columns" "I") (by decide +kernel)
  have hf44 := hts (.fieldLink RX0 44 "MapSheets$Atlas" "rows" "I") (by decide +kernel)
  refine lv_aload_n hx hb dX0_sheetCount_0 rfl (lv_at hl 0 rfl) ?_
  refine va_get (D := G.1) (ci := 0) (v := .int (nI (σ 0))) (C := RX0) (T := TX0) (N := 10) hx hb hts hinX0 hown hG.1 hP 0 rfl rfl 6 (by decide) hf41 (fun _ h9 => h9) rfl dX0_sheetCount_1 ?_
  refine lv_aload_n hx hb dX0_sheetCount_4 rfl (lv_at hl 0 rfl) ?_
  refine va_get (D := G.1) (ci := 0) (v := .int (nI (σ 1))) (C := RX0) (T := TX0) (N := 10) hx hb hts hinX0 hown hG.1 hP 0 rfl rfl 7 (by decide) hf44 (fun _ h9 => h9) rfl dX0_sheetCount_5 ?_
  refine lv_imul hx hb dX0_sheetCount_8 ?_
  refine lv_topi (nm_r (e' := nI ((σ 0) * (σ 1))) (pk_mul _ _) ?_)
  exact hret _ _ _ dX0_sheetCount_9 (congrArg nI (rfl))
set_option maxHeartbeats 4000000 in
set_option maxRecDepth 100000 in
theorem kX0_hasSheet (l : Launch) (G : zG) (a : Nat → Nat) (σ : Nat → Nat) (x : Int32)  : Met l yX0_hasSheet wsX0_hasSheet (zRm 1 20) (zPc G [.ref (a 0), .int x] (va_P G.1 vwCl (wA G a σ))) (zS (.int (if 0 ≤ x ∧ x < nI (nS σ) then 1 else 0))) 0 0 (fun _ => False) := by
  refine zmkZ (cc := cX0_hasSheet) (maxL := 2) (by decide) rfl (Nat.le_of_ble_eq_true rfl) ?_
  intro pr en st mi ar bl me cd ls Q hx hb hml hown hts hG hP hl hret
  have hown : st.vm.findClass RX0 = some mi.cls := hown
  have hl : lv_has ls 2 [(0, .ref (a 0)), (1, .int x)] := hl
  have hP : va_P G.1 vwCl (wA G a σ) st.heap := hP
  refine lv_iload_n hx hb dX0_hasSheet_0 rfl (lv_at hl 1 rfl) ?_
  refine lv_if_lt (tgt := 16) hx hb dX0_hasSheet_1 (by decide) (fun h1 => ?_) (fun h1 => ?_)
  · skip
    refine lv_iconst (v := nI 0) hx hb dX0_hasSheet_16 (by decide) ?_
    exact hret _ _ _ dX0_hasSheet_17 (z_f (by simp only [Int32.le_iff_toInt_le, Int32.lt_iff_toInt_lt] at h1 ⊢; omega))
  · skip
    refine lv_iload_n hx hb dX0_hasSheet_4 rfl (lv_at hl 1 rfl) ?_
    refine lv_aload_n hx hb dX0_hasSheet_5 rfl (lv_at hl 0 rfl) ?_
    refine zrdV (As := []) ⟨hx, hb, hml, hown, hts⟩ (kX0_sheetCount l G a σ ) (cwV 0 hts gX0_hasSheet_X0_sheetCount rfl rfl rfl (by decide +kernel) ⟨Nat.le_of_ble_eq_true rfl, Nat.le_of_ble_eq_true rfl⟩) hG (va_recv (q0 := 0) (ci := 0) hG.1 hP rfl rfl) (hP) rfl rfl hl.1 dX0_hasSheet_6 (Nat.le_of_ble_eq_true rfl) ⟨Nat.le_of_ble_eq_true rfl, Nat.le_of_ble_eq_true rfl⟩ ?_
    refine lv_icmp_ge (tgt := 16) hx hb dX0_hasSheet_9 (by decide) (fun h9 => ?_) (fun h9 => ?_)
    · skip
      refine lv_iconst (v := nI 0) hx hb dX0_hasSheet_16 (by decide) ?_
      exact hret _ _ _ dX0_hasSheet_17 (z_f (by simp only [Int32.le_iff_toInt_le, Int32.lt_iff_toInt_lt] at h1 h9 ⊢; omega))
    · skip
      refine lv_iconst (v := nI 1) hx hb dX0_hasSheet_12 (by decide) ?_
      refine lv_goto (tgt := 17) hx hb dX0_hasSheet_13 (by decide) ?_
      exact hret _ _ _ dX0_hasSheet_17 (z_t (by simp only [Int32.le_iff_toInt_le, Int32.lt_iff_toInt_lt] at h1 h9 ⊢; omega))
set_option maxHeartbeats 4000000 in
set_option maxRecDepth 100000 in
theorem kX0_hasPlace (l : Launch) (G : zG) (a : Nat → Nat) (σ : Nat → Nat) (x : Int32) (d : Int32) (p : Int32)  : Met l yX0_hasPlace wsX0_hasPlace (zRm 2 41) (zPc G [.ref (a 0), .int x, .int d, .int p] (va_P G.1 vwCl (wA G a σ))) (zS (.int (if (0 ≤ x ∧ x < nI (nS σ)) ∧ (0 ≤ d ∧ d ≤ 3) ∧ (0 ≤ p ∧ p ≤ 9) then 1 else 0))) 0 0 (fun _ => False) := by
  refine zmkZ (cc := cX0_hasPlace) (maxL := 4) (by decide) rfl (Nat.le_of_ble_eq_true rfl) ?_
  intro pr en st mi ar bl me cd ls Q hx hb hml hown hts hG hP hl hret
  have hown : st.vm.findClass RX0 = some mi.cls := hown
  have hl : lv_has ls 4 [(0, .ref (a 0)), (1, .int x), (2, .int d), (3, .int p)] := hl
  have hP : va_P G.1 vwCl (wA G a σ) st.heap := hP
  have hz65 : Cond.initialized RX4 ∈ wsX0_hasPlace := by decide +kernel
  have hy65 : Cond.static yX4_isWithin ∈ wsX0_hasPlace := by decide +kernel
  refine lv_aload_n hx hb dX0_hasPlace_0 rfl (lv_at hl 0 rfl) ?_
  refine lv_iload_n hx hb dX0_hasPlace_1 rfl (lv_at hl 1 rfl) ?_
  refine zrdV (As := [.int x]) ⟨hx, hb, hml, hown, hts⟩ (kX0_hasSheet l G a σ x) (cwV 1 hts gX0_hasPlace_X0_hasSheet rfl rfl rfl (by decide +kernel) ⟨Nat.le_of_ble_eq_true rfl, Nat.le_of_ble_eq_true rfl⟩) hG (va_recv (q0 := 0) (ci := 0) hG.1 hP rfl rfl) (hP) rfl rfl hl.1 dX0_hasPlace_2 (Nat.le_of_ble_eq_true rfl) ⟨Nat.le_of_ble_eq_true rfl, Nat.le_of_ble_eq_true rfl⟩ ?_
  refine lv_if_eq (tgt := 31) hx hb dX0_hasPlace_5 (by decide) (fun h5 => ?_) (fun h5 => ?_)
  · skip
    have h5 : ¬ (0 ≤ x ∧ x < nI (nS σ)) := (z_b0).mp h5
    refine lv_iconst (v := nI 0) hx hb dX0_hasPlace_31 (by decide) ?_
    exact hret _ _ _ dX0_hasPlace_32 (z_f (by first | exact ⟨h5, h14, h24⟩ | exact fun q => h5 q.1 | exact fun q => h14 q.2.1 | exact fun q => h24 q.2.2))
  · skip
    have h5 : ¬ (¬ (0 ≤ x ∧ x < nI (nS σ))) := fun q => h5 ((z_b0).mpr q)
    have h5 : 0 ≤ x ∧ x < nI (nS σ) := Decidable.of_not_not h5
    refine lv_iload_n hx hb dX0_hasPlace_8 rfl (lv_at hl 2 rfl) ?_
    refine lv_iconst (v := nI 0) hx hb dX0_hasPlace_9 (by decide) ?_
    refine lv_iconst (v := nI 3) hx hb dX0_hasPlace_10 (by decide) ?_
    refine zrdN (As := [.int d, .int (nI 0), .int (nI 3)]) ⟨hx, hb, hml, hown, hts⟩ (kX4_isWithin l G  d (nI 0) (nI 3)) ⟨va_cnB 3 hts gX0_hasPlace_X4_isWithin_n65 rfl rfl rfl (hG.2.2.2.2.1) (hts _ hz65) (by decide +kernel) ⟨Nat.le_of_ble_eq_true rfl, Nat.le_of_ble_eq_true rfl⟩, hts _ hy65, trivial⟩ hG (trivial) rfl rfl hl.1 dX0_hasPlace_11 (Nat.le_of_ble_eq_true rfl) ⟨Nat.le_of_ble_eq_true rfl, Nat.le_of_ble_eq_true rfl⟩ ?_
    refine lv_if_eq (tgt := 31) hx hb dX0_hasPlace_14 (by decide) (fun h14 => ?_) (fun h14 => ?_)
    · skip
      have h14 : ¬ ((nI 0) ≤ d ∧ d ≤ (nI 3)) := (z_b0).mp h14
      refine lv_iconst (v := nI 0) hx hb dX0_hasPlace_31 (by decide) ?_
      exact hret _ _ _ dX0_hasPlace_32 (z_f (by first | exact ⟨h5, h14, h24⟩ | exact fun q => h5 q.1 | exact fun q => h14 q.2.1 | exact fun q => h24 q.2.2))
    · skip
      have h14 : ¬ (¬ ((nI 0) ≤ d ∧ d ≤ (nI 3))) := fun q => h14 ((z_b0).mpr q)
      have h14 : (nI 0) ≤ d ∧ d ≤ (nI 3) := Decidable.of_not_not h14
      refine lv_iload_n hx hb dX0_hasPlace_17 rfl (lv_at hl 3 rfl) ?_
      refine lv_iconst (v := nI 0) hx hb dX0_hasPlace_18 (by decide) ?_
      refine lv_bipush (v := nI 9) hx hb dX0_hasPlace_19 (by decide) ?_
      refine zrdN (As := [.int p, .int (nI 0), .int (nI 9)]) ⟨hx, hb, hml, hown, hts⟩ (kX4_isWithin l G  p (nI 0) (nI 9)) ⟨va_cnB 3 hts gX0_hasPlace_X4_isWithin_n65 rfl rfl rfl (hG.2.2.2.2.1) (hts _ hz65) (by decide +kernel) ⟨Nat.le_of_ble_eq_true rfl, Nat.le_of_ble_eq_true rfl⟩, hts _ hy65, trivial⟩ hG (trivial) rfl rfl hl.1 dX0_hasPlace_21 (Nat.le_of_ble_eq_true rfl) ⟨Nat.le_of_ble_eq_true rfl, Nat.le_of_ble_eq_true rfl⟩ ?_
      refine lv_if_eq (tgt := 31) hx hb dX0_hasPlace_24 (by decide) (fun h24 => ?_) (fun h24 => ?_)
      · skip
        have h24 : ¬ ((nI 0) ≤ p ∧ p ≤ (nI 9)) := (z_b0).mp h24
        refine lv_iconst (v := nI 0) hx hb dX0_hasPlace_31 (by decide) ?_
        exact hret _ _ _ dX0_hasPlace_32 (z_f (by first | exact ⟨h5, h14, h24⟩ | exact fun q => h5 q.1 | exact fun q => h14 q.2.1 | exact fun q => h24 q.2.2))
      · skip
        have h24 : ¬ (¬ ((nI 0) ≤ p ∧ p ≤ (nI 9))) := fun q => h24 ((z_b0).mpr q)
        have h24 : (nI 0) ≤ p ∧ p ≤ (nI 9) := Decidable.of_not_not h24
        refine lv_iconst (v := nI 1) hx hb dX0_hasPlace_27 (by decide) ?_
        refine lv_goto (tgt := 32) hx hb dX0_hasPlace_28 (by decide) ?_
        exact hret _ _ _ dX0_hasPlace_32 (z_t (by first | exact ⟨h5, h14, h24⟩ | exact fun q => h5 q.1 | exact fun q => h14 q.2.1 | exact fun q => h24 q.2.2))
set_option maxHeartbeats 4000000 in
set_option maxRecDepth 100000 in
theorem kX0_columnOf (l : Launch) (G : zG) (a : Nat → Nat) (σ : Nat → Nat) {N : Nat} (k : Nat) (hO : Ok N σ) (hk : k < nS σ) : Met l yX0_columnOf wsX0_columnOf (zRm 0 0) (zPc G [.ref (a 0), .int (nI k)] (va_P G.1 vwCl (wA G a σ))) (zS (.int (nI (k % σ 0)))) 0 0 (fun _ => False) := by
  refine zmkI (cc := cX0_columnOf) (maxL := 2) (by decide) rfl (Nat.le_of_ble_eq_true rfl) ?_
  intro pr en st mi ar bl me cd ls Q hx hb hml hown hts hG hP hl hret
  have hown : st.vm.findClass RX0 = some mi.cls := hown
  have hl : lv_has ls 2 [(0, .ref (a 0)), (1, .int (nI k))] := hl
  have hP : va_P G.1 vwCl (wA G a σ) st.heap := hP
  have hinX0 : ∀ w ∈ wsX00, w ∈ wsX0_columnOf := by decide +kernel
  have hf41 := hts (.fieldLink RX0 41 "MapSheets$Atlas" "columns" "I") (by decide +kernel)
  have hc := hO.c
  have hs := hO.lS
  have hr := hO.lR
  have hne := hO.lE
  have hm := Nat.mod_lt k (show σ 0 > 0 by omega)
  have hd := Nat.div_le_self k (σ 0)
  refine lv_aload_n hx hb dX0_columnOf_0 rfl (lv_at hl 0 rfl) ?_
  refine va_get (D := G.1) (ci := 0) (v := .int (nI (σ 0))) (C := RX0) (T := TX0) (N := 10) hx hb hts hinX0 hown hG.1 hP 0 rfl rfl 6 (by decide) hf41 (fun _ h9 => h9) rfl dX0_columnOf_1 ?_
  refine lv_if_le (tgt := 16) hx hb dX0_columnOf_4 (by decide) (fun h4 => ?_) (fun h4 => ?_)
  · skip
    have h4 : (σ 0) = 0 := (z_le0 (by omega)).mp h4
    exfalso; omega
  · skip
    have h4 : ¬ ((σ 0) = 0) := fun q => h4 ((z_le0 (by omega)).mpr q)
    have h4 : 0 < (σ 0) := Nat.pos_of_ne_zero h4
    refine lv_iload_n hx hb dX0_columnOf_7 rfl (lv_at hl 1 rfl) ?_
    refine lv_aload_n hx hb dX0_columnOf_8 rfl (lv_at hl 0 rfl) ?_
    refine va_get (D := G.1) (ci := 0) (v := .int (nI (σ 0))) (C := RX0) (T := TX0) (N := 10) hx hb hts hinX0 hown hG.1 hP 0 rfl rfl 6 (by decide) hf41 (fun _ h9 => h9) rfl dX0_columnOf_9 ?_
    refine lv_irem hx hb dX0_columnOf_12 (nI_ne0 (by omega) (by omega)) ?_
    refine lv_topi (nm_r (e' := nI (k % (σ 0))) (pk_rem (by omega) (by omega) (by omega)) ?_)
    refine lv_goto (tgt := 17) hx hb dX0_columnOf_13 (by decide) ?_
    exact hret _ _ _ dX0_columnOf_17 (congrArg nI (rfl))
set_option maxHeartbeats 4000000 in
set_option maxRecDepth 100000 in
theorem kX0_rowOf (l : Launch) (G : zG) (a : Nat → Nat) (σ : Nat → Nat) {N : Nat} (k : Nat) (hO : Ok N σ) (hk : k < nS σ) : Met l yX0_rowOf wsX0_rowOf (zRm 0 0) (zPc G [.ref (a 0), .int (nI k)] (va_P G.1 vwCl (wA G a σ))) (zS (.int (nI (k / σ 0)))) 0 0 (fun _ => False) := by
  refine zmkI (cc := cX0_rowOf) (maxL := 2) (by decide) rfl (Nat.le_of_ble_eq_true rfl) ?_
  intro pr en st mi ar bl me cd ls Q hx hb hml hown hts hG hP hl hret
  have hown : st.vm.findClass RX0 = some mi.cls := hown
  have hl : lv_has ls 2 [(0, .ref (a 0)), (1, .int (nI k))] := hl
  have hP : va_P G.1 vwCl (wA G a σ) st.heap := hP
  have hinX0 : ∀ w ∈ wsX00, w ∈ wsX0_rowOf := by decide +kernel
  have hf41 := hts (.fieldLink RX0 41 "MapSheets$Atlas" "columns" "I") (by decide +kernel)
  have hc := hO.c
  have hs := hO.lS
  have hr := hO.lR
  have hne := hO.lE
  have hm := Nat.mod_lt k (show σ 0 > 0 by omega)
  have hd := Nat.div_le_self k (σ 0)
  refine lv_aload_n hx hb dX0_rowOf_0 rfl (lv_at hl 0 rfl) ?_
  refine va_get (D := G.1) (ci := 0) (v := .int (nI (σ 0))) (C := RX0) (T := TX0) (N := 10) hx hb hts hinX0 hown hG.1 hP 0 rfl rfl 6 (by decide) hf41 (fun _ h9 => h9) rfl dX0_rowOf_1 ?_
  refine lv_if_le (tgt := 16) hx hb dX0_rowOf_4 (by decide) (fun h4 => ?_) (fun h4 => ?_)
  · skip
    have h4 : (σ 0) = 0 := (z_le0 (by omega)).mp h4
    exfalso; omega
  · skip
    have h4 : ¬ ((σ 0) = 0) := fun q => h4 ((z_le0 (by omega)).mpr q)
    have h4 : 0 < (σ 0) := Nat.pos_of_ne_zero h4
    refine lv_iload_n hx hb dX0_rowOf_7 rfl (lv_at hl 1 rfl) ?_
    refine lv_aload_n hx hb dX0_rowOf_8 rfl (lv_at hl 0 rfl) ?_
    refine va_get (D := G.1) (ci := 0) (v := .int (nI (σ 0))) (C := RX0) (T := TX0) (N := 10) hx hb hts hinX0 hown hG.1 hP 0 rfl rfl 6 (by decide) hf41 (fun _ h9 => h9) rfl dX0_rowOf_9 ?_
    refine lv_idiv hx hb dX0_rowOf_12 (nI_ne0 (by omega) (by omega)) ?_
    refine lv_topi (nm_r (e' := nI (k / (σ 0))) (pk_div (by omega) (by omega) (by omega)) ?_)
    refine lv_goto (tgt := 17) hx hb dX0_rowOf_13 (by decide) ?_
    exact hret _ _ _ dX0_rowOf_17 (congrArg nI (rfl))
set_option maxHeartbeats 4000000 in
set_option maxRecDepth 100000 in
theorem kX0_rowEdgeCount (l : Launch) (G : zG) (a : Nat → Nat) (σ : Nat → Nat) {N : Nat}  (hO : Ok N σ) : Met l yX0_rowEdgeCount wsX0_rowEdgeCount (zRm 0 0) (zPc G [.ref (a 0)] (va_P G.1 vwCl (wA G a σ))) (zS (.int (nI (rE σ)))) 0 0 (fun _ => False) := by
  refine zmkI (cc := cX0_rowEdgeCount) (maxL := 1) (by decide) rfl (Nat.le_of_ble_eq_true rfl) ?_
  intro pr en st mi ar bl me cd ls Q hx hb hml hown hts hG hP hl hret
  have hown : st.vm.findClass RX0 = some mi.cls := hown
  have hl : lv_has ls 1 [(0, .ref (a 0))] := hl
  have hP : va_P G.1 vwCl (wA G a σ) st.heap := hP
  have hinX0 : ∀ w ∈ wsX00, w ∈ wsX0_rowEdgeCount := by decide +kernel
  have hf41 := hts (.fieldLink RX0 41 "MapSheets$Atlas" "columns" "I") (by decide +kernel)
  have hf44 := hts (.fieldLink RX0 44 "MapSheets$Atlas" "rows" "I") (by decide +kernel)
  have hc := hO.c
  have hs := hO.lS
  have hr := hO.lR
  have hne := hO.lE
  refine lv_aload_n hx hb dX0_rowEdgeCount_0 rfl (lv_at hl 0 rfl) ?_
  refine va_get (D := G.1) (ci := 0) (v := .int (nI (σ 0))) (C := RX0) (T := TX0) (N := 10) hx hb hts hinX0 hown hG.1 hP 0 rfl rfl 6 (by decide) hf41 (fun _ h9 => h9) rfl dX0_rowEdgeCount_1 ?_
  refine lv_iconst (v := nI 1) hx hb dX0_rowEdgeCount_4 (by decide) ?_
  refine lv_isub hx hb dX0_rowEdgeCount_5 ?_
  refine lv_topi (nm_r (e' := nI ((σ 0) - 1)) (pk_sub (by omega)) ?_)
  refine lv_aload_n hx hb dX0_rowEdgeCount_6 rfl (lv_at hl 0 rfl) ?_
  refine va_get (D := G.1) (ci := 0) (v := .int (nI (σ 1))) (C := RX0) (T := TX0) (N := 10) hx hb hts hinX0 hown hG.1 hP 0 rfl rfl 7 (by decide) hf44 (fun _ h9 => h9) rfl dX0_rowEdgeCount_7 ?_
  refine lv_imul hx hb dX0_rowEdgeCount_10 ?_
  refine lv_topi (nm_r (e' := nI (((σ 0) - 1) * (σ 1))) (pk_mul _ _) ?_)
  exact hret _ _ _ dX0_rowEdgeCount_11 (congrArg nI (rfl))
set_option maxHeartbeats 4000000 in
set_option maxRecDepth 100000 in
theorem kX0_edgeCount (l : Launch) (G : zG) (a : Nat → Nat) (σ : Nat → Nat) {N : Nat}  (hO : Ok N σ) : Met l yX0_edgeCount wsX0_edgeCount (zRm 1 20) (zPc G [.ref (a 0)] (va_P G.1 vwCl (wA G a σ))) (zS (.int (nI (nE σ)))) 0 0 (fun _ => False) := by
  refine zmkI (cc := cX0_edgeCount) (maxL := 1) (by decide) rfl (Nat.le_of_ble_eq_true rfl) ?_
  intro pr en st mi ar bl me cd ls Q hx hb hml hown hts hG hP hl hret
  have hown : st.vm.findClass RX0 = some mi.cls := hown
  have hl : lv_has ls 1 [(0, .ref (a 0))] := hl
  have hP : va_P G.1 vwCl (wA G a σ) st.heap := hP
  have hinX0 : ∀ w ∈ wsX00, w ∈ wsX0_edgeCount := by decide +kernel
  have hf41 := hts (.fieldLink RX0 41 "MapSheets$Atlas" "columns" "I") (by decide +kernel)
  have hf44 := hts (.fieldLink RX0 44 "MapSheets$Atlas" "rows" "I") (by decide +kernel)
  have hc := hO.c
  have hs := hO.lS
  have hr := hO.lR
  have hne := hO.lE
  refine lv_aload_n hx hb dX0_edgeCount_0 rfl (lv_at hl 0 rfl) ?_
  refine zrdV (As := []) ⟨hx, hb, hml, hown, hts⟩ (kX0_rowEdgeCount l G a σ (hO)) (cwV 0 hts gX0_edgeCount_X0_rowEdgeCount rfl rfl rfl (by decide +kernel) ⟨Nat.le_of_ble_eq_true rfl, Nat.le_of_ble_eq_true rfl⟩) hG (va_recv (q0 := 0) (ci := 0) hG.1 hP rfl rfl) (hP) rfl rfl hl.1 dX0_edgeCount_1 (Nat.le_of_ble_eq_true rfl) ⟨Nat.le_of_ble_eq_true rfl, Nat.le_of_ble_eq_true rfl⟩ ?_
  refine lv_aload_n hx hb dX0_edgeCount_4 rfl (lv_at hl 0 rfl) ?_
  refine va_get (D := G.1) (ci := 0) (v := .int (nI (σ 0))) (C := RX0) (T := TX0) (N := 10) hx hb hts hinX0 hown hG.1 hP 0 rfl rfl 6 (by decide) hf41 (fun _ h9 => h9) rfl dX0_edgeCount_5 ?_
  refine lv_aload_n hx hb dX0_edgeCount_8 rfl (lv_at hl 0 rfl) ?_
  refine va_get (D := G.1) (ci := 0) (v := .int (nI (σ 1))) (C := RX0) (T := TX0) (N := 10) hx hb hts hinX0 hown hG.1 hP 0 rfl rfl 7 (by decide) hf44 (fun _ h9 => h9) rfl dX0_edgeCount_9 ?_
  refine lv_iconst (v := nI 1) hx hb dX0_edgeCount_12 (by decide) ?_
  refine lv_isub hx hb dX0_edgeCount_13 ?_
  refine lv_topi (nm_r (e' := nI ((σ 1) - 1)) (pk_sub (by omega)) ?_)
  refine lv_imul hx hb dX0_edgeCount_14 ?_
  refine lv_topi (nm_r (e' := nI ((σ 0) * ((σ 1) - 1))) (pk_mul _ _) ?_)
  refine lv_iadd hx hb dX0_edgeCount_15 ?_
  refine lv_topi (nm_r (e' := nI ((rE σ) + ((σ 0) * ((σ 1) - 1)))) (nI_add _ _) ?_)
  exact hret _ _ _ dX0_edgeCount_16 (congrArg nI (rfl))
set_option maxHeartbeats 4000000 in
set_option maxRecDepth 100000 in
theorem kX0_hasEdge (l : Launch) (G : zG) (a : Nat → Nat) (σ : Nat → Nat) {N : Nat} (x : Int32) (hO : Ok N σ) : Met l yX0_hasEdge wsX0_hasEdge (zRm 2 40) (zPc G [.ref (a 0), .int x] (va_P G.1 vwCl (wA G a σ))) (zS (.int (if 0 ≤ x ∧ x < nI (nE σ) then 1 else 0))) 0 0 (fun _ => False) := by
  refine zmkZ (cc := cX0_hasEdge) (maxL := 2) (by decide) rfl (Nat.le_of_ble_eq_true rfl) ?_
  intro pr en st mi ar bl me cd ls Q hx hb hml hown hts hG hP hl hret
  have hown : st.vm.findClass RX0 = some mi.cls := hown
  have hl : lv_has ls 2 [(0, .ref (a 0)), (1, .int x)] := hl
  have hP : va_P G.1 vwCl (wA G a σ) st.heap := hP
  have hc := hO.c
  have hs := hO.lS
  have hr := hO.lR
  have hne := hO.lE
  refine lv_iload_n hx hb dX0_hasEdge_0 rfl (lv_at hl 1 rfl) ?_
  refine lv_if_lt (tgt := 16) hx hb dX0_hasEdge_1 (by decide) (fun h1 => ?_) (fun h1 => ?_)
  · skip
    refine lv_iconst (v := nI 0) hx hb dX0_hasEdge_16 (by decide) ?_
    exact hret _ _ _ dX0_hasEdge_17 (z_f (by simp only [Int32.le_iff_toInt_le, Int32.lt_iff_toInt_lt] at h1 ⊢; omega))
  · skip
    refine lv_iload_n hx hb dX0_hasEdge_4 rfl (lv_at hl 1 rfl) ?_
    refine lv_aload_n hx hb dX0_hasEdge_5 rfl (lv_at hl 0 rfl) ?_
    refine zrdV (As := []) ⟨hx, hb, hml, hown, hts⟩ (kX0_edgeCount l G a σ (hO)) (cwV 0 hts gX0_hasEdge_X0_edgeCount rfl rfl rfl (by decide +kernel) ⟨Nat.le_of_ble_eq_true rfl, Nat.le_of_ble_eq_true rfl⟩) hG (va_recv (q0 := 0) (ci := 0) hG.1 hP rfl rfl) (hP) rfl rfl hl.1 dX0_hasEdge_6 (Nat.le_of_ble_eq_true rfl) ⟨Nat.le_of_ble_eq_true rfl, Nat.le_of_ble_eq_true rfl⟩ ?_
    refine lv_icmp_ge (tgt := 16) hx hb dX0_hasEdge_9 (by decide) (fun h9 => ?_) (fun h9 => ?_)
    · skip
      refine lv_iconst (v := nI 0) hx hb dX0_hasEdge_16 (by decide) ?_
      exact hret _ _ _ dX0_hasEdge_17 (z_f (by simp only [Int32.le_iff_toInt_le, Int32.lt_iff_toInt_lt] at h1 h9 ⊢; omega))
    · skip
      refine lv_iconst (v := nI 1) hx hb dX0_hasEdge_12 (by decide) ?_
      refine lv_goto (tgt := 17) hx hb dX0_hasEdge_13 (by decide) ?_
      exact hret _ _ _ dX0_hasEdge_17 (z_t (by simp only [Int32.le_iff_toInt_le, Int32.lt_iff_toInt_lt] at h1 h9 ⊢; omega))
set_option maxHeartbeats 4000000 in
set_option maxRecDepth 100000 in
theorem kX0_firstSheet (l : Launch) (G : zG) (a : Nat → Nat) (σ : Nat → Nat) {N : Nat} (e : Nat) (hO : Ok N σ) (he : e < nE σ) : Met l yX0_firstSheet wsX0_firstSheet (zRm 0 0) (zPc G [.ref (a 0), .int (nI e)] (va_P G.1 vwCl (wA G a σ))) (zS (.int (nI (fS σ e)))) 0 0 (fun _ => False) := by
  refine zmkI (cc := cX0_firstSheet) (maxL := 4) (by decide) rfl (Nat.le_of_ble_eq_true rfl) ?_
  intro pr en st mi ar bl me cd ls Q hx hb hml hown hts hG hP hl hret
  have hown : st.vm.findClass RX0 = some mi.cls := hown
  have hl : lv_has ls 4 [(0, .ref (a 0)), (1, .int (nI e))] := hl
  have hP : va_P G.1 vwCl (wA G a σ) st.heap := hP
  have hinX0 : ∀ w ∈ wsX00, w ∈ wsX0_firstSheet := by decide +kernel
  have hf41 := hts (.fieldLink RX0 41 "MapSheets$Atlas" "columns" "I") (by decide +kernel)
  have hf44 := hts (.fieldLink RX0 44 "MapSheets$Atlas" "rows" "I") (by decide +kernel)
  have hc := hO.c
  have hs := hO.lS
  have hr := hO.lR
  have hne := hO.lE
  have hre : rE σ = (σ 0 - 1) * σ 1 := rfl
  refine lv_aload_n hx hb dX0_firstSheet_0 rfl (lv_at hl 0 rfl) ?_
  refine va_get (D := G.1) (ci := 0) (v := .int (nI (σ 0))) (C := RX0) (T := TX0) (N := 10) hx hb hts hinX0 hown hG.1 hP 0 rfl rfl 6 (by decide) hf41 (fun _ h9 => h9) rfl dX0_firstSheet_1 ?_
  refine lv_iconst (v := nI 1) hx hb dX0_firstSheet_4 (by decide) ?_
  refine lv_isub hx hb dX0_firstSheet_5 ?_
  refine lv_topi (nm_r (e' := nI ((σ 0) - 1)) (pk_sub (by omega)) ?_)
  refine lv_istore_n (lv' := [(2, .int (nI ((σ 0) - 1))), (0, .ref (a 0)), (1, .int (nI e))]) hx hb dX0_firstSheet_6 rfl hl (by decide) rfl (fun ls hl => ?_)
  refine lv_iload_n hx hb dX0_firstSheet_7 rfl (lv_at hl 0 rfl) ?_
  refine lv_aload_n hx hb dX0_firstSheet_8 rfl (lv_at hl 1 rfl) ?_
  refine va_get (D := G.1) (ci := 0) (v := .int (nI (σ 1))) (C := RX0) (T := TX0) (N := 10) hx hb hts hinX0 hown hG.1 hP 0 rfl rfl 7 (by decide) hf44 (fun _ h9 => h9) rfl dX0_firstSheet_9 ?_
  refine lv_imul hx hb dX0_firstSheet_12 ?_
  refine lv_topi (nm_r (e' := nI (((σ 0) - 1) * (σ 1))) (pk_mul _ _) ?_)
  refine lv_istore_n (lv' := [(3, .int (nI (((σ 0) - 1) * (σ 1)))), (2, .int (nI ((σ 0) - 1))), (0, .ref (a 0)), (1, .int (nI e))]) hx hb dX0_firstSheet_13 rfl hl (by decide) rfl (fun ls hl => ?_)
  refine lv_iload_n hx hb dX0_firstSheet_14 rfl (lv_at hl 1 rfl) ?_
  refine lv_if_le (tgt := 29) hx hb dX0_firstSheet_15 (by decide) (fun h15 => ?_) (fun h15 => ?_)
  · skip
    have h15 : ((σ 0) - 1) = 0 := (z_le0 (by omega)).mp h15
    have hz : (σ 0 - 1) * σ 1 = 0 := by rw [h15, Nat.zero_mul]
    refine lv_iload_n hx hb dX0_firstSheet_29 rfl (lv_at hl 3 rfl) ?_
    refine lv_iload_n hx hb dX0_firstSheet_30 rfl (lv_at hl 0 rfl) ?_
    refine lv_isub hx hb dX0_firstSheet_31 ?_
    refine lv_topi (nm_r (e' := nI (e - (((σ 0) - 1) * (σ 1)))) (pk_sub (by omega)) ?_)
    exact hret _ _ _ dX0_firstSheet_32 (congrArg nI (by unfold fS; first | rw [if_pos (by omega)] | rw [if_neg (by omega), hre]))
  · skip
    have h15 : ¬ (((σ 0) - 1) = 0) := fun q => h15 ((z_le0 (by omega)).mpr q)
    have h15 : 0 < ((σ 0) - 1) := Nat.pos_of_ne_zero h15
    refine lv_iload_n hx hb dX0_firstSheet_18 rfl (lv_at hl 3 rfl) ?_
    refine lv_iload_n hx hb dX0_firstSheet_19 rfl (lv_at hl 0 rfl) ?_
    refine lv_icmp_ge (tgt := 29) hx hb dX0_firstSheet_20 (by decide) (fun h20 => ?_) (fun h20 => ?_)
    · skip
      have h20 : (((σ 0) - 1) * (σ 1)) ≤ e := (nI_leI (by omega) (by omega)).mp h20
      skip
      refine lv_iload_n hx hb dX0_firstSheet_29 rfl (lv_at hl 3 rfl) ?_
      refine lv_iload_n hx hb dX0_firstSheet_30 rfl (lv_at hl 0 rfl) ?_
      refine lv_isub hx hb dX0_firstSheet_31 ?_
      refine lv_topi (nm_r (e' := nI (e - (((σ 0) - 1) * (σ 1)))) (pk_sub (by omega)) ?_)
      exact hret _ _ _ dX0_firstSheet_32 (congrArg nI (by unfold fS; first | rw [if_pos (by omega)] | rw [if_neg (by omega), hre]))
    · skip
      have h20 : ¬ ((((σ 0) - 1) * (σ 1)) ≤ e) := fun q => h20 ((nI_leI (by omega) (by omega)).mpr q)
      refine lv_iload_n hx hb dX0_firstSheet_23 rfl (lv_at hl 3 rfl) ?_
      refine lv_iload_n hx hb dX0_firstSheet_24 rfl (lv_at hl 3 rfl) ?_
      refine lv_iload_n hx hb dX0_firstSheet_25 rfl (lv_at hl 1 rfl) ?_
      refine lv_idiv hx hb dX0_firstSheet_26 (nI_ne0 (by omega) (by omega)) ?_
      refine lv_topi (nm_r (e' := nI (e / ((σ 0) - 1))) (pk_div (by omega) (by omega) (by omega)) ?_)
      refine lv_iadd hx hb dX0_firstSheet_27 ?_
      refine lv_topi (nm_r (e' := nI (e + (e / ((σ 0) - 1)))) (nI_add _ _) ?_)
      exact hret _ _ _ dX0_firstSheet_28 (congrArg nI (by unfold fS; first | rw [if_pos (by omega)] | rw [if_neg (by omega), hre]))
set_option maxHeartbeats 4000000 in
set_option maxRecDepth 100000 in
theorem kX0_secondSheet (l : Launch) (G : zG) (a : Nat → Nat) (σ : Nat → Nat) {N : Nat} (e : Nat) (hO : Ok N σ) (he : e < nE σ) : Met l yX0_secondSheet wsX0_secondSheet (zRm 1 23) (zPc G [.ref (a 0), .int (nI e)] (va_P G.1 vwCl (wA G a σ))) (zS (.int (nI (sS σ e)))) 0 0 (fun _ => False) := by
  refine zmkI (cc := cX0_secondSheet) (maxL := 2) (by decide) rfl (Nat.le_of_ble_eq_true rfl) ?_
  intro pr en st mi ar bl me cd ls Q hx hb hml hown hts hG hP hl hret
  have hown : st.vm.findClass RX0 = some mi.cls := hown
  have hl : lv_has ls 2 [(0, .ref (a 0)), (1, .int (nI e))] := hl
  have hP : va_P G.1 vwCl (wA G a σ) st.heap := hP
  have hinX0 : ∀ w ∈ wsX00, w ∈ wsX0_secondSheet := by decide +kernel
  have hf41 := hts (.fieldLink RX0 41 "MapSheets$Atlas" "columns" "I") (by decide +kernel)
  have hc := hO.c
  have hs := hO.lS
  have hr := hO.lR
  have hne := hO.lE
  have hf := hO.lF he
  refine lv_aload_n hx hb dX0_secondSheet_0 rfl (lv_at hl 0 rfl) ?_
  refine lv_iload_n hx hb dX0_secondSheet_1 rfl (lv_at hl 1 rfl) ?_
  refine zrdV (As := [.int (nI e)]) ⟨hx, hb, hml, hown, hts⟩ (kX0_firstSheet l G a σ e (hO) (by omega)) (cwV 1 hts gX0_secondSheet_X0_firstSheet rfl rfl rfl (by decide +kernel) ⟨Nat.le_of_ble_eq_true rfl, Nat.le_of_ble_eq_true rfl⟩) hG (va_recv (q0 := 0) (ci := 0) hG.1 hP rfl rfl) (hP) rfl rfl hl.1 dX0_secondSheet_2 (Nat.le_of_ble_eq_true rfl) ⟨Nat.le_of_ble_eq_true rfl, Nat.le_of_ble_eq_true rfl⟩ ?_
  have hf2_0 := hO.lF (show e < nE σ by omega)
  refine lv_iload_n hx hb dX0_secondSheet_5 rfl (lv_at hl 1 rfl) ?_
  refine lv_aload_n hx hb dX0_secondSheet_6 rfl (lv_at hl 0 rfl) ?_
  refine zrdV (As := []) ⟨hx, hb, hml, hown, hts⟩ (kX0_rowEdgeCount l G a σ (hO)) (cwV 0 hts gX0_secondSheet_X0_rowEdgeCount rfl rfl rfl (by decide +kernel) ⟨Nat.le_of_ble_eq_true rfl, Nat.le_of_ble_eq_true rfl⟩) hG (va_recv (q0 := 0) (ci := 0) hG.1 hP rfl rfl) (hP) rfl rfl hl.1 dX0_secondSheet_7 (Nat.le_of_ble_eq_true rfl) ⟨Nat.le_of_ble_eq_true rfl, Nat.le_of_ble_eq_true rfl⟩ ?_
  refine lv_icmp_ge (tgt := 17) hx hb dX0_secondSheet_10 (by decide) (fun h10 => ?_) (fun h10 => ?_)
  · skip
    have h10 : (rE σ) ≤ e := (nI_leI (by omega) (by omega)).mp h10
    refine lv_aload_n hx hb dX0_secondSheet_17 rfl (lv_at hl 0 rfl) ?_
    refine va_get (D := G.1) (ci := 0) (v := .int (nI (σ 0))) (C := RX0) (T := TX0) (N := 10) hx hb hts hinX0 hown hG.1 hP 0 rfl rfl 6 (by decide) hf41 (fun _ h9 => h9) rfl dX0_secondSheet_18 ?_
    refine lv_iadd hx hb dX0_secondSheet_21 ?_
    refine lv_topi (nm_r (e' := nI ((fS σ e) + (σ 0))) (nI_add _ _) ?_)
    exact hret _ _ _ dX0_secondSheet_22 (congrArg nI (by unfold sS; first | rw [if_pos (by omega)] | rw [if_neg (by omega)]))
  · skip
    have h10 : ¬ ((rE σ) ≤ e) := fun q => h10 ((nI_leI (by omega) (by omega)).mpr q)
    refine lv_iconst (v := nI 1) hx hb dX0_secondSheet_13 (by decide) ?_
    refine lv_goto (tgt := 21) hx hb dX0_secondSheet_14 (by decide) ?_
    refine lv_iadd hx hb dX0_secondSheet_21 ?_
    refine lv_topi (nm_r (e' := nI ((fS σ e) + 1)) (nI_add _ _) ?_)
    exact hret _ _ _ dX0_secondSheet_22 (congrArg nI (by unfold sS; first | rw [if_pos (by omega)] | rw [if_neg (by omega)]))
set_option maxHeartbeats 4000000 in
set_option maxRecDepth 100000 in
theorem kX0_firstSide (l : Launch) (G : zG) (a : Nat → Nat) (σ : Nat → Nat) {N : Nat} (e : Nat) (hO : Ok N σ) (he : e < nE σ) : Met l yX0_firstSide wsX0_firstSide (zRm 1 20) (zPc G [.ref (a 0), .int (nI e)] (va_P G.1 vwCl (wA G a σ))) (zS (.int (nI (fD σ e)))) 0 0 (fun _ => False) := by
  refine zmkI (cc := cX0_firstSide) (maxL := 2) (by decide) rfl (Nat.le_of_ble_eq_true rfl) ?_
  intro pr en st mi ar bl me cd ls Q hx hb hml hown hts hG hP hl hret
  have hown : st.vm.findClass RX0 = some mi.cls := hown
  have hl : lv_has ls 2 [(0, .ref (a 0)), (1, .int (nI e))] := hl
  have hP : va_P G.1 vwCl (wA G a σ) st.heap := hP
  have hc := hO.c
  have hs := hO.lS
  have hr := hO.lR
  have hne := hO.lE
  refine lv_iload_n hx hb dX0_firstSide_0 rfl (lv_at hl 1 rfl) ?_
  refine lv_aload_n hx hb dX0_firstSide_1 rfl (lv_at hl 0 rfl) ?_
  refine zrdV (As := []) ⟨hx, hb, hml, hown, hts⟩ (kX0_rowEdgeCount l G a σ (hO)) (cwV 0 hts gX0_firstSide_X0_rowEdgeCount rfl rfl rfl (by decide +kernel) ⟨Nat.le_of_ble_eq_true rfl, Nat.le_of_ble_eq_true rfl⟩) hG (va_recv (q0 := 0) (ci := 0) hG.1 hP rfl rfl) (hP) rfl rfl hl.1 dX0_firstSide_2 (Nat.le_of_ble_eq_true rfl) ⟨Nat.le_of_ble_eq_true rfl, Nat.le_of_ble_eq_true rfl⟩ ?_
  refine lv_icmp_ge (tgt := 12) hx hb dX0_firstSide_5 (by decide) (fun h5 => ?_) (fun h5 => ?_)
  · skip
    have h5 : (rE σ) ≤ e := (nI_leI (by omega) (by omega)).mp h5
    refine lv_iconst (v := nI 2) hx hb dX0_firstSide_12 (by decide) ?_
    exact hret _ _ _ dX0_firstSide_13 (congrArg nI (by unfold fD; first | rw [if_pos (by omega)] | rw [if_neg (by omega)]))
  · skip
    have h5 : ¬ ((rE σ) ≤ e) := fun q => h5 ((nI_leI (by omega) (by omega)).mpr q)
    refine lv_iconst (v := nI 1) hx hb dX0_firstSide_8 (by decide) ?_
    refine lv_goto (tgt := 13) hx hb dX0_firstSide_9 (by decide) ?_
    exact hret _ _ _ dX0_firstSide_13 (congrArg nI (by unfold fD; first | rw [if_pos (by omega)] | rw [if_neg (by omega)]))
set_option maxHeartbeats 4000000 in
set_option maxRecDepth 100000 in
theorem kX0_secondSide (l : Launch) (G : zG) (a : Nat → Nat) (σ : Nat → Nat) {N : Nat} (e : Nat) (hO : Ok N σ) (he : e < nE σ) : Met l yX0_secondSide wsX0_secondSide (zRm 1 20) (zPc G [.ref (a 0), .int (nI e)] (va_P G.1 vwCl (wA G a σ))) (zS (.int (nI (sD σ e)))) 0 0 (fun _ => False) := by
  refine zmkI (cc := cX0_secondSide) (maxL := 2) (by decide) rfl (Nat.le_of_ble_eq_true rfl) ?_
  intro pr en st mi ar bl me cd ls Q hx hb hml hown hts hG hP hl hret
  have hown : st.vm.findClass RX0 = some mi.cls := hown
  have hl : lv_has ls 2 [(0, .ref (a 0)), (1, .int (nI e))] := hl
  have hP : va_P G.1 vwCl (wA G a σ) st.heap := hP
  have hc := hO.c
  have hs := hO.lS
  have hr := hO.lR
  have hne := hO.lE
  refine lv_iload_n hx hb dX0_secondSide_0 rfl (lv_at hl 1 rfl) ?_
  refine lv_aload_n hx hb dX0_secondSide_1 rfl (lv_at hl 0 rfl) ?_
  refine zrdV (As := []) ⟨hx, hb, hml, hown, hts⟩ (kX0_rowEdgeCount l G a σ (hO)) (cwV 0 hts gX0_secondSide_X0_rowEdgeCount rfl rfl rfl (by decide +kernel) ⟨Nat.le_of_ble_eq_true rfl, Nat.le_of_ble_eq_true rfl⟩) hG (va_recv (q0 := 0) (ci := 0) hG.1 hP rfl rfl) (hP) rfl rfl hl.1 dX0_secondSide_2 (Nat.le_of_ble_eq_true rfl) ⟨Nat.le_of_ble_eq_true rfl, Nat.le_of_ble_eq_true rfl⟩ ?_
  refine lv_icmp_ge (tgt := 12) hx hb dX0_secondSide_5 (by decide) (fun h5 => ?_) (fun h5 => ?_)
  · skip
    have h5 : (rE σ) ≤ e := (nI_leI (by omega) (by omega)).mp h5
    refine lv_iconst (v := nI 0) hx hb dX0_secondSide_12 (by decide) ?_
    exact hret _ _ _ dX0_secondSide_13 (congrArg nI (by unfold sD; first | rw [if_pos (by omega)] | rw [if_neg (by omega)]))
  · skip
    have h5 : ¬ ((rE σ) ≤ e) := fun q => h5 ((nI_leI (by omega) (by omega)).mpr q)
    refine lv_iconst (v := nI 3) hx hb dX0_secondSide_8 (by decide) ?_
    refine lv_goto (tgt := 13) hx hb dX0_secondSide_9 (by decide) ?_
    exact hret _ _ _ dX0_secondSide_13 (congrArg nI (by unfold sD; first | rw [if_pos (by omega)] | rw [if_neg (by omega)]))
set_option maxHeartbeats 4000000 in
set_option maxRecDepth 100000 in
theorem kX0_edgeOf (l : Launch) (G : zG) (a : Nat → Nat) (σ : Nat → Nat) {N : Nat} (k : Nat) (d : Nat) (hO : Ok N σ) (hk : k < nS σ) (hd4 : d < 4) : Met l yX0_edgeOf wsX0_edgeOf (zRm 1 21) (zPc G [.ref (a 0), .int (nI k), .int (nI d)] (va_P G.1 vwCl (wA G a σ))) (zS (.int (zc 60 (eO σ k d)))) 0 0 (fun _ => False) := by
  refine zmkI (cc := cX0_edgeOf) (maxL := 7) (by decide) rfl (Nat.le_of_ble_eq_true rfl) ?_
  intro pr en st mi ar bl me cd ls Q hx hb hml hown hts hG hP hl hret
  have hown : st.vm.findClass RX0 = some mi.cls := hown
  have hl : lv_has ls 7 [(0, .ref (a 0)), (1, .int (nI k)), (2, .int (nI d))] := hl
  have hP : va_P G.1 vwCl (wA G a σ) st.heap := hP
  have hinX0 : ∀ w ∈ wsX00, w ∈ wsX0_edgeOf := by decide +kernel
  have hf41 := hts (.fieldLink RX0 41 "MapSheets$Atlas" "columns" "I") (by decide +kernel)
  have hf44 := hts (.fieldLink RX0 44 "MapSheets$Atlas" "rows" "I") (by decide +kernel)
  have hc := hO.c
  have hs := hO.lS
  have hr := hO.lR
  have hne := hO.lE
  have hm := Nat.mod_lt k (show σ 0 > 0 by omega)
  have hdd := Nat.div_le_self k (σ 0)
  have hre : rE σ = (σ 0 - 1) * σ 1 := rfl
  have hq := hO.kd hk
  have hlo := hO.lO hk hd4
  have hdm : σ 0 * (k / σ 0) + k % σ 0 = k := Nat.div_add_mod k (σ 0)
  refine lv_aload_n hx hb dX0_edgeOf_0 rfl (lv_at hl 0 rfl) ?_
  refine lv_iload_n hx hb dX0_edgeOf_1 rfl (lv_at hl 1 rfl) ?_
  refine zrdV (As := [.int (nI k)]) ⟨hx, hb, hml, hown, hts⟩ (kX0_columnOf l G a σ k (hO) (by omega)) (cwV 1 hts gX0_edgeOf_X0_columnOf rfl rfl rfl (by decide +kernel) ⟨Nat.le_of_ble_eq_true rfl, Nat.le_of_ble_eq_true rfl⟩) hG (va_recv (q0 := 0) (ci := 0) hG.1 hP rfl rfl) (hP) rfl rfl hl.1 dX0_edgeOf_2 (Nat.le_of_ble_eq_true rfl) ⟨Nat.le_of_ble_eq_true rfl, Nat.le_of_ble_eq_true rfl⟩ ?_
  have hf2_0 := Nat.mod_lt (k) (show σ 0 > 0 by omega)
  refine lv_istore_n (lv' := [(3, .int (nI (k % σ 0))), (0, .ref (a 0)), (1, .int (nI k)), (2, .int (nI d))]) hx hb dX0_edgeOf_5 rfl hl (by decide) rfl (fun ls hl => ?_)
  refine lv_aload_n hx hb dX0_edgeOf_6 rfl (lv_at hl 1 rfl) ?_
  refine lv_iload_n hx hb dX0_edgeOf_7 rfl (lv_at hl 2 rfl) ?_
  refine zrdV (As := [.int (nI k)]) ⟨hx, hb, hml, hown, hts⟩ (kX0_rowOf l G a σ k (hO) (by omega)) (cwV 1 hts gX0_edgeOf_X0_rowOf rfl rfl rfl (by decide +kernel) ⟨Nat.le_of_ble_eq_true rfl, Nat.le_of_ble_eq_true rfl⟩) hG (va_recv (q0 := 0) (ci := 0) hG.1 hP rfl rfl) (hP) rfl rfl hl.1 dX0_edgeOf_8 (Nat.le_of_ble_eq_true rfl) ⟨Nat.le_of_ble_eq_true rfl, Nat.le_of_ble_eq_true rfl⟩ ?_
  have hf8_0 := Nat.div_le_self (k) (σ 0)
  refine lv_istore (lv' := [(4, .int (nI (k / σ 0))), (3, .int (nI (k % σ 0))), (0, .ref (a 0)), (1, .int (nI k)), (2, .int (nI d))]) hx hb dX0_edgeOf_11 hl (by decide) rfl (fun ls hl => ?_)
  refine lv_iload hx hb dX0_edgeOf_13 (lv_at hl 0 rfl) ?_
  refine lv_aload_n hx hb dX0_edgeOf_15 rfl (lv_at hl 2 rfl) ?_
  refine va_get (D := G.1) (ci := 0) (v := .int (nI (σ 0))) (C := RX0) (T := TX0) (N := 10) hx hb hts hinX0 hown hG.1 hP 0 rfl rfl 6 (by decide) hf41 (fun _ h9 => h9) rfl dX0_edgeOf_16 ?_
  refine lv_iconst (v := nI 1) hx hb dX0_edgeOf_19 (by decide) ?_
  refine lv_isub hx hb dX0_edgeOf_20 ?_
  refine lv_topi (nm_r (e' := nI ((σ 0) - 1)) (pk_sub (by omega)) ?_)
  refine lv_imul hx hb dX0_edgeOf_21 ?_
  refine lv_topi (nm_r (e' := nI ((k / σ 0) * ((σ 0) - 1))) (pk_mul _ _) ?_)
  refine lv_iload_n hx hb dX0_edgeOf_22 rfl (lv_at hl 1 rfl) ?_
  refine lv_iadd hx hb dX0_edgeOf_23 ?_
  refine lv_topi (nm_r (e' := nI (((k / σ 0) * ((σ 0) - 1)) + (k % σ 0))) (nI_add _ _) ?_)
  refine lv_istore (lv' := [(5, .int (nI (((k / σ 0) * ((σ 0) - 1)) + (k % σ 0)))), (4, .int (nI (k / σ 0))), (3, .int (nI (k % σ 0))), (0, .ref (a 0)), (1, .int (nI k)), (2, .int (nI d))]) hx hb dX0_edgeOf_24 hl (by decide) rfl (fun ls hl => ?_)
  refine lv_aload_n hx hb dX0_edgeOf_26 rfl (lv_at hl 3 rfl) ?_
  refine zrdV (As := []) ⟨hx, hb, hml, hown, hts⟩ (kX0_rowEdgeCount l G a σ (hO)) (cwV 0 hts gX0_edgeOf_X0_rowEdgeCount rfl rfl rfl (by decide +kernel) ⟨Nat.le_of_ble_eq_true rfl, Nat.le_of_ble_eq_true rfl⟩) hG (va_recv (q0 := 0) (ci := 0) hG.1 hP rfl rfl) (hP) rfl rfl hl.1 dX0_edgeOf_27 (Nat.le_of_ble_eq_true rfl) ⟨Nat.le_of_ble_eq_true rfl, Nat.le_of_ble_eq_true rfl⟩ ?_
  refine lv_iload_n hx hb dX0_edgeOf_30 rfl (lv_at hl 4 rfl) ?_
  refine lv_iadd hx hb dX0_edgeOf_31 ?_
  refine lv_topi (nm_r (e' := nI ((rE σ) + k)) (nI_add _ _) ?_)
  refine lv_istore (lv' := [(6, .int (nI ((rE σ) + k))), (5, .int (nI (((k / σ 0) * ((σ 0) - 1)) + (k % σ 0)))), (4, .int (nI (k / σ 0))), (3, .int (nI (k % σ 0))), (0, .ref (a 0)), (1, .int (nI k)), (2, .int (nI d))]) hx hb dX0_edgeOf_32 hl (by decide) rfl (fun ls hl => ?_)
  refine lv_iload_n hx hb dX0_edgeOf_34 rfl (lv_at hl 6 rfl) ?_
  rcases (show d = 0 ∨ d = 1 ∨ d = 2 ∨ d = 3 by omega) with hw35 | hw35 | hw35 | hw35
  · refine lv_tableIn (off := 25) (tgt := 60) hx hb dX0_edgeOf_35 (by rw [hw35]; decide) (by rw [hw35]; decide) (by rw [hw35]; decide) (by decide) ?_
    refine lv_iload hx hb dX0_edgeOf_60 (lv_at hl 2 rfl) ?_
    refine lv_if_le (tgt := 75) hx hb dX0_edgeOf_62 (by decide) (fun h62 => ?_) (fun h62 => ?_)
    · skip
      have h62 : (k / σ 0) = 0 := (z_le0 (by omega)).mp h62
      refine lv_bipush (v := (-4)) hx hb dX0_edgeOf_75 (by decide) ?_
      exact hret _ _ _ dX0_edgeOf_77 (by unfold eO; rw [if_pos hw35, if_neg (by first | assumption | omega), zc_b])
    · skip
      have h62 : ¬ ((k / σ 0) = 0) := fun q => h62 ((z_le0 (by omega)).mpr q)
      have h62 : 0 < (k / σ 0) := Nat.pos_of_ne_zero h62
      refine lv_iload hx hb dX0_edgeOf_65 (lv_at hl 0 rfl) ?_
      refine lv_aload_n hx hb dX0_edgeOf_67 rfl (lv_at hl 4 rfl) ?_
      refine va_get (D := G.1) (ci := 0) (v := .int (nI (σ 0))) (C := RX0) (T := TX0) (N := 10) hx hb hts hinX0 hown hG.1 hP 0 rfl rfl 6 (by decide) hf41 (fun _ h9 => h9) rfl dX0_edgeOf_68 ?_
      have hcm : σ 0 * 1 ≤ σ 0 * (k / σ 0) := Nat.mul_le_mul (Nat.le_refl _) h62
      refine lv_isub hx hb dX0_edgeOf_71 ?_
      refine lv_topi (nm_r (e' := nI (((rE σ) + k) - (σ 0))) (pk_sub (by omega)) ?_)
      refine lv_goto (tgt := 77) hx hb dX0_edgeOf_72 (by decide) ?_
      have hT := hO.lT hk
      have hE : eO σ k d = ((rE σ) + k) - (σ 0) := by unfold eO; rw [if_pos hw35, if_pos (by first | assumption | omega)]
      exact hret _ _ _ dX0_edgeOf_77 (by rw [hE, zc_n (by omega)])
  · refine lv_tableIn (off := 43) (tgt := 78) hx hb dX0_edgeOf_35 (by rw [hw35]; decide) (by rw [hw35]; decide) (by rw [hw35]; decide) (by decide) ?_
    refine lv_iload_n hx hb dX0_edgeOf_78 rfl (lv_at hl 3 rfl) ?_
    refine lv_aload_n hx hb dX0_edgeOf_79 rfl (lv_at hl 4 rfl) ?_
    refine va_get (D := G.1) (ci := 0) (v := .int (nI (σ 0))) (C := RX0) (T := TX0) (N := 10) hx hb hts hinX0 hown hG.1 hP 0 rfl rfl 6 (by decide) hf41 (fun _ h9 => h9) rfl dX0_edgeOf_80 ?_
    refine lv_iconst (v := nI 1) hx hb dX0_edgeOf_83 (by decide) ?_
    refine lv_isub hx hb dX0_edgeOf_84 ?_
    refine lv_topi (nm_r (e' := nI ((σ 0) - 1)) (pk_sub (by omega)) ?_)
    have hsc : σ 0 - 1 < 2 ^ 31 := by omega
    refine lv_icmp_ge (tgt := 93) hx hb dX0_edgeOf_85 (by decide) (fun h85 => ?_) (fun h85 => ?_)
    · skip
      have h85 : ((σ 0) - 1) ≤ (k % σ 0) := (nI_leI (by omega) (by omega)).mp h85
      refine lv_bipush (v := (-4)) hx hb dX0_edgeOf_93 (by decide) ?_
      exact hret _ _ _ dX0_edgeOf_95 (by unfold eO; rw [if_neg (by omega), if_pos hw35, if_neg (by first | assumption | omega), zc_b])
    · skip
      have h85 : ¬ (((σ 0) - 1) ≤ (k % σ 0)) := fun q => h85 ((nI_leI (by omega) (by omega)).mpr q)
      refine lv_iload hx hb dX0_edgeOf_88 (lv_at hl 1 rfl) ?_
      refine lv_goto (tgt := 95) hx hb dX0_edgeOf_90 (by decide) ?_
      have hT := hO.lT hk
      have hE : eO σ k d = ((k / σ 0) * ((σ 0) - 1)) + (k % σ 0) := by unfold eO; rw [if_neg (by omega), if_pos hw35, if_pos (by first | assumption | omega)]
      exact hret _ _ _ dX0_edgeOf_95 (by rw [hE, zc_n (by omega)])
  · refine lv_tableIn (off := 61) (tgt := 96) hx hb dX0_edgeOf_35 (by rw [hw35]; decide) (by rw [hw35]; decide) (by rw [hw35]; decide) (by decide) ?_
    refine lv_iload hx hb dX0_edgeOf_96 (lv_at hl 2 rfl) ?_
    refine lv_aload_n hx hb dX0_edgeOf_98 rfl (lv_at hl 4 rfl) ?_
    refine va_get (D := G.1) (ci := 0) (v := .int (nI (σ 1))) (C := RX0) (T := TX0) (N := 10) hx hb hts hinX0 hown hG.1 hP 0 rfl rfl 7 (by decide) hf44 (fun _ h9 => h9) rfl dX0_edgeOf_99 ?_
    refine lv_iconst (v := nI 1) hx hb dX0_edgeOf_102 (by decide) ?_
    refine lv_isub hx hb dX0_edgeOf_103 ?_
    refine lv_topi (nm_r (e' := nI ((σ 1) - 1)) (pk_sub (by omega)) ?_)
    refine lv_icmp_ge (tgt := 112) hx hb dX0_edgeOf_104 (by decide) (fun h104 => ?_) (fun h104 => ?_)
    · skip
      have h104 : ((σ 1) - 1) ≤ (k / σ 0) := (nI_leI (by omega) (by omega)).mp h104
      refine lv_bipush (v := (-4)) hx hb dX0_edgeOf_112 (by decide) ?_
      exact hret _ _ _ dX0_edgeOf_114 (by unfold eO; rw [if_neg (by omega), if_neg (by omega), if_pos hw35, if_neg (by first | assumption | omega), zc_b])
    · skip
      have h104 : ¬ (((σ 1) - 1) ≤ (k / σ 0)) := fun q => h104 ((nI_leI (by omega) (by omega)).mpr q)
      refine lv_iload hx hb dX0_edgeOf_107 (lv_at hl 0 rfl) ?_
      refine lv_goto (tgt := 114) hx hb dX0_edgeOf_109 (by decide) ?_
      have hT := hO.lT hk
      have hE : eO σ k d = (rE σ) + k := by unfold eO; rw [if_neg (by omega), if_neg (by omega), if_pos hw35, if_pos (by first | assumption | omega)]
      exact hret _ _ _ dX0_edgeOf_114 (by rw [hE, zc_n (by omega)])
  · refine lv_tableOut (tgt := 115) hx hb dX0_edgeOf_35 (Or.inr (by rw [nI_toInt (by omega)]; omega)) (by decide) ?_
    refine lv_iload_n hx hb dX0_edgeOf_115 rfl (lv_at hl 3 rfl) ?_
    refine lv_if_le (tgt := 126) hx hb dX0_edgeOf_116 (by decide) (fun h116 => ?_) (fun h116 => ?_)
    · skip
      have h116 : (k % σ 0) = 0 := (z_le0 (by omega)).mp h116
      refine lv_bipush (v := (-4)) hx hb dX0_edgeOf_126 (by decide) ?_
      exact hret _ _ _ dX0_edgeOf_128 (by unfold eO; rw [if_neg (by omega), if_neg (by omega), if_neg (by omega), if_neg (by first | assumption | omega), zc_b])
    · skip
      have h116 : ¬ ((k % σ 0) = 0) := fun q => h116 ((z_le0 (by omega)).mpr q)
      have h116 : 0 < (k % σ 0) := Nat.pos_of_ne_zero h116
      refine lv_iload hx hb dX0_edgeOf_119 (lv_at hl 1 rfl) ?_
      refine lv_iconst (v := nI 1) hx hb dX0_edgeOf_121 (by decide) ?_
      refine lv_isub hx hb dX0_edgeOf_122 ?_
      refine lv_topi (nm_r (e' := nI ((((k / σ 0) * ((σ 0) - 1)) + (k % σ 0)) - 1)) (pk_sub (by omega)) ?_)
      refine lv_goto (tgt := 128) hx hb dX0_edgeOf_123 (by decide) ?_
      have hT := hO.lT hk
      have hE : eO σ k d = (((k / σ 0) * ((σ 0) - 1)) + (k % σ 0)) - 1 := by unfold eO; rw [if_neg (by omega), if_neg (by omega), if_neg (by omega), if_pos (by first | assumption | omega)]
      exact hret _ _ _ dX0_edgeOf_128 (by rw [hE, zc_n (by omega)])
set_option maxHeartbeats 4000000 in
set_option maxRecDepth 100000 in
theorem kX0_placeOf (l : Launch) (G : zG)  (k : Nat) (d : Nat) (p : Nat)  : Met l yX0_placeOf wsX0_placeOf (zRm 0 0) (zPc G [.int (nI k), .int (nI d), .int (nI p)] (fun _ => True)) (zS (.int (nI ((k * 4 + d) * 10 + p)))) 0 0 (fun _ => False) := by
  refine zmkI (cc := cX0_placeOf) (maxL := 3) (by decide) rfl (Nat.le_of_ble_eq_true rfl) ?_
  intro pr en st mi ar bl me cd ls Q hx hb hml hown hts hG hP hl hret
  have hown : st.vm.findClass RX0 = some mi.cls := hown
  have hl : lv_has ls 3 [(0, .int (nI k)), (1, .int (nI d)), (2, .int (nI p))] := hl
  refine lv_iload_n hx hb dX0_placeOf_0 rfl (lv_at hl 0 rfl) ?_
  refine lv_iconst (v := nI 4) hx hb dX0_placeOf_1 (by decide) ?_
  refine lv_imul hx hb dX0_placeOf_2 ?_
  refine lv_topi (nm_r (e' := nI (k * 4)) (pk_mul _ _) ?_)
  refine lv_iload_n hx hb dX0_placeOf_3 rfl (lv_at hl 1 rfl) ?_
  refine lv_iadd hx hb dX0_placeOf_4 ?_
  refine lv_topi (nm_r (e' := nI ((k * 4) + d)) (nI_add _ _) ?_)
  refine lv_bipush (v := nI 10) hx hb dX0_placeOf_5 (by decide) ?_
  refine lv_imul hx hb dX0_placeOf_7 ?_
  refine lv_topi (nm_r (e' := nI (((k * 4) + d) * 10)) (pk_mul _ _) ?_)
  refine lv_iload_n hx hb dX0_placeOf_8 rfl (lv_at hl 2 rfl) ?_
  refine lv_iadd hx hb dX0_placeOf_9 ?_
  refine lv_topi (nm_r (e' := nI ((((k * 4) + d) * 10) + p)) (nI_add _ _) ?_)
  exact hret _ _ _ dX0_placeOf_10 (congrArg nI (rfl))
set_option maxHeartbeats 4000000 in
set_option maxRecDepth 100000 in
theorem kX0_signAt (l : Launch) (G : zG) (a : Nat → Nat) (σ : Nat → Nat) (k : Nat) (d : Nat) (p : Nat) (hk : k < 36) (hd4 : d < 4) (hp : p < 10) : Met l yX0_signAt wsX0_signAt (zRm 1 22) (zPc G [.ref (a 0), .int (nI k), .int (nI d), .int (nI p)] (va_P G.1 vwCl (wA G a σ))) (zS (.int (nI (sgn σ k d p)))) 0 0 (fun _ => False) := by
  refine zmkI (cc := cX0_signAt) (maxL := 4) (by decide) rfl (Nat.le_of_ble_eq_true rfl) ?_
  intro pr en st mi ar bl me cd ls Q hx hb hml hown hts hG hP hl hret
  have hown : st.vm.findClass RX0 = some mi.cls := hown
  have hl : lv_has ls 4 [(0, .ref (a 0)), (1, .int (nI k)), (2, .int (nI d)), (3, .int (nI p))] := hl
  have hP : va_P G.1 vwCl (wA G a σ) st.heap := hP
  have hinX0 : ∀ w ∈ wsX00, w ∈ wsX0_signAt := by decide +kernel
  have hf9 := hts (.fieldLink RX0 9 "MapSheets$Atlas" "signs" "[I") (by decide +kernel)
  have hz93 : Cond.initialized RX4 ∈ wsX0_signAt := by decide +kernel
  have hy93 : Cond.static yX4_valueAt ∈ wsX0_signAt := by decide +kernel
  refine lv_aload_n hx hb dX0_signAt_0 rfl (lv_at hl 0 rfl) ?_
  refine va_get (D := G.1) (ci := 0) (v := .ref (a 1)) (C := RX0) (T := TX0) (N := 10) hx hb hts hinX0 hown hG.1 hP 0 rfl rfl 0 (by decide) hf9 (fun _ h9 => h9) rfl dX0_signAt_1 ?_
  refine lv_iload_n hx hb dX0_signAt_4 rfl (lv_at hl 1 rfl) ?_
  refine lv_iload_n hx hb dX0_signAt_5 rfl (lv_at hl 2 rfl) ?_
  refine lv_iload_n hx hb dX0_signAt_6 rfl (lv_at hl 3 rfl) ?_
  refine zrdS (As := [.int (nI k), .int (nI d), .int (nI p)]) ⟨hx, hb, hml, hown, hts⟩ (kX0_placeOf l G  k d p) (va_cwS 3 hts gX0_signAt_X0_placeOf rfl rfl rfl (by decide +kernel) ⟨Nat.le_of_ble_eq_true rfl, Nat.le_of_ble_eq_true rfl⟩) hG (trivial) rfl rfl hl.1 dX0_signAt_7 (Nat.le_of_ble_eq_true rfl) ⟨Nat.le_of_ble_eq_true rfl, Nat.le_of_ble_eq_true rfl⟩ ?_
  refine lv_bipush (v := nI 10) hx hb dX0_signAt_10 (by decide) ?_
  refine zrdN (As := [.ref (a 1), .int (nI ((k * 4 + d) * 10 + p)), .int (nI 10)]) ⟨hx, hb, hml, hown, hts⟩ (kX4_valueAt l G (a 1) 1440 (fun i => nI (sgF σ i)) ((k * 4 + d) * 10 + p) (nI 10) (by omega) (by omega)) ⟨va_cnB 3 hts gX0_signAt_X4_valueAt_n93 rfl rfl rfl (hG.2.2.2.2.2.2.1) (hts _ hz93) (by decide +kernel) ⟨Nat.le_of_ble_eq_true rfl, Nat.le_of_ble_eq_true rfl⟩, hts _ hy93, trivial⟩ hG (hP.sub [1] rfl) rfl rfl hl.1 dX0_signAt_12 (Nat.le_of_ble_eq_true rfl) ⟨Nat.le_of_ble_eq_true rfl, Nat.le_of_ble_eq_true rfl⟩ ?_
  exact hret _ _ _ dX0_signAt_15 (congrArg nI (sgF_at σ hd4 hp))
set_option maxHeartbeats 4000000 in
set_option maxRecDepth 100000 in
theorem kX0_meaningOf (l : Launch) (G : zG) (a : Nat → Nat) (σ : Nat → Nat) (k : Nat) (g : Nat) (hk : k < 36) (hg : g < 10) : Met l yX0_meaningOf wsX0_meaningOf (zRm 1 22) (zPc G [.ref (a 0), .int (nI k), .int (nI g)] (va_P G.1 vwCl (wA G a σ))) (zS (.int (nI (mng σ k g)))) 0 0 (fun _ => False) := by
  refine zmkI (cc := cX0_meaningOf) (maxL := 3) (by decide) rfl (Nat.le_of_ble_eq_true rfl) ?_
  intro pr en st mi ar bl me cd ls Q hx hb hml hown hts hG hP hl hret
  have hown : st.vm.findClass RX0 = some mi.cls := hown
  have hl : lv_has ls 3 [(0, .ref (a 0)), (1, .int (nI k)), (2, .int (nI g))] := hl
  have hP : va_P G.1 vwCl (wA G a σ) st.heap := hP
  have hinX0 : ∀ w ∈ wsX00, w ∈ wsX0_meaningOf := by decide +kernel
  have hf15 := hts (.fieldLink RX0 15 "MapSheets$Atlas" "meanings" "[I") (by decide +kernel)
  have hz93 : Cond.initialized RX4 ∈ wsX0_meaningOf := by decide +kernel
  have hy93 : Cond.static yX4_valueAt ∈ wsX0_meaningOf := by decide +kernel
  refine lv_aload_n hx hb dX0_meaningOf_0 rfl (lv_at hl 0 rfl) ?_
  refine va_get (D := G.1) (ci := 0) (v := .ref (a 2)) (C := RX0) (T := TX0) (N := 10) hx hb hts hinX0 hown hG.1 hP 0 rfl rfl 1 (by decide) hf15 (fun _ h9 => h9) rfl dX0_meaningOf_1 ?_
  refine lv_iload_n hx hb dX0_meaningOf_4 rfl (lv_at hl 1 rfl) ?_
  refine lv_bipush (v := nI 10) hx hb dX0_meaningOf_5 (by decide) ?_
  refine lv_imul hx hb dX0_meaningOf_7 ?_
  refine lv_topi (nm_r (e' := nI (k * 10)) (pk_mul _ _) ?_)
  refine lv_iload_n hx hb dX0_meaningOf_8 rfl (lv_at hl 2 rfl) ?_
  refine lv_iadd hx hb dX0_meaningOf_9 ?_
  refine lv_topi (nm_r (e' := nI ((k * 10) + g)) (nI_add _ _) ?_)
  refine lv_iconst (v := nI 0) hx hb dX0_meaningOf_10 (by decide) ?_
  refine zrdN (As := [.ref (a 2), .int (nI ((k * 10) + g)), .int (nI 0)]) ⟨hx, hb, hml, hown, hts⟩ (kX4_valueAt l G (a 2) 360 (fun i => nI (mnF σ i)) ((k * 10) + g) (nI 0) (by omega) (by omega)) ⟨va_cnB 3 hts gX0_meaningOf_X4_valueAt_n93 rfl rfl rfl (hG.2.2.2.2.2.2.1) (hts _ hz93) (by decide +kernel) ⟨Nat.le_of_ble_eq_true rfl, Nat.le_of_ble_eq_true rfl⟩, hts _ hy93, trivial⟩ hG (hP.sub [2] rfl) rfl rfl hl.1 dX0_meaningOf_11 (Nat.le_of_ble_eq_true rfl) ⟨Nat.le_of_ble_eq_true rfl, Nat.le_of_ble_eq_true rfl⟩ ?_
  exact hret _ _ _ dX0_meaningOf_14 (congrArg nI (mnF_at σ hg))
set_option maxHeartbeats 4000000 in
set_option maxRecDepth 100000 in
theorem kX0_meaningAt (l : Launch) (G : zG) (a : Nat → Nat) (σ : Nat → Nat) {N : Nat} (k : Nat) (d : Nat) (p : Nat) (hO : Ok N σ) (hk : k < 36) (hd4 : d < 4) (hp : p < 10) : Met l yX0_meaningAt wsX0_meaningAt (zRm 1 22) (zPc G [.ref (a 0), .int (nI k), .int (nI d), .int (nI p)] (va_P G.1 vwCl (wA G a σ))) (zS (.int (zc 10 (mns σ k d p)))) 0 0 (fun _ => False) := by
  refine zmkI (cc := cX0_meaningAt) (maxL := 5) (by decide) rfl (Nat.le_of_ble_eq_true rfl) ?_
  intro pr en st mi ar bl me cd ls Q hx hb hml hown hts hG hP hl hret
  have hown : st.vm.findClass RX0 = some mi.cls := hown
  have hl : lv_has ls 5 [(0, .ref (a 0)), (1, .int (nI k)), (2, .int (nI d)), (3, .int (nI p))] := hl
  have hP : va_P G.1 vwCl (wA G a σ) st.heap := hP
  have hinX0 : ∀ w ∈ wsX00, w ∈ wsX0_meaningAt := by decide +kernel
  have hf9 := hts (.fieldLink RX0 9 "MapSheets$Atlas" "signs" "[I") (by decide +kernel)
  have hz93 : Cond.initialized RX4 ∈ wsX0_meaningAt := by decide +kernel
  have hy93 : Cond.static yX4_valueAt ∈ wsX0_meaningAt := by decide +kernel
  have hf15 := hts (.fieldLink RX0 15 "MapSheets$Atlas" "meanings" "[I") (by decide +kernel)
  have hc := hO.c
  have hs := hO.lS
  have hr := hO.lR
  have hne := hO.lE
  have hsg := hO.sg hk hd4 hp
  refine lv_aload_n hx hb dX0_meaningAt_0 rfl (lv_at hl 0 rfl) ?_
  refine va_get (D := G.1) (ci := 0) (v := .ref (a 1)) (C := RX0) (T := TX0) (N := 10) hx hb hts hinX0 hown hG.1 hP 0 rfl rfl 0 (by decide) hf9 (fun _ h9 => h9) rfl dX0_meaningAt_1 ?_
  refine lv_iload_n hx hb dX0_meaningAt_4 rfl (lv_at hl 1 rfl) ?_
  refine lv_iload_n hx hb dX0_meaningAt_5 rfl (lv_at hl 2 rfl) ?_
  refine lv_iload_n hx hb dX0_meaningAt_6 rfl (lv_at hl 3 rfl) ?_
  refine zrdS (As := [.int (nI k), .int (nI d), .int (nI p)]) ⟨hx, hb, hml, hown, hts⟩ (kX0_placeOf l G  k d p) (va_cwS 3 hts gX0_meaningAt_X0_placeOf rfl rfl rfl (by decide +kernel) ⟨Nat.le_of_ble_eq_true rfl, Nat.le_of_ble_eq_true rfl⟩) hG (trivial) rfl rfl hl.1 dX0_meaningAt_7 (Nat.le_of_ble_eq_true rfl) ⟨Nat.le_of_ble_eq_true rfl, Nat.le_of_ble_eq_true rfl⟩ ?_
  refine lv_bipush (v := nI 10) hx hb dX0_meaningAt_10 (by decide) ?_
  refine zrdN (As := [.ref (a 1), .int (nI ((k * 4 + d) * 10 + p)), .int (nI 10)]) ⟨hx, hb, hml, hown, hts⟩ (kX4_valueAt l G (a 1) 1440 (fun i => nI (sgF σ i)) ((k * 4 + d) * 10 + p) (nI 10) (by omega) (by omega)) ⟨va_cnB 3 hts gX0_meaningAt_X4_valueAt_n93 rfl rfl rfl (hG.2.2.2.2.2.2.1) (hts _ hz93) (by decide +kernel) ⟨Nat.le_of_ble_eq_true rfl, Nat.le_of_ble_eq_true rfl⟩, hts _ hy93, trivial⟩ hG (hP.sub [1] rfl) rfl rfl hl.1 dX0_meaningAt_12 (Nat.le_of_ble_eq_true rfl) ⟨Nat.le_of_ble_eq_true rfl, Nat.le_of_ble_eq_true rfl⟩ ?_
  refine lv_topi (nm_r (e' := nI (sgn σ k d p)) (by rw [sgF_at σ hd4 hp]) ?_)
  refine lv_istore (lv' := [(4, .int (nI (sgn σ k d p))), (0, .ref (a 0)), (1, .int (nI k)), (2, .int (nI d)), (3, .int (nI p))]) hx hb dX0_meaningAt_15 hl (by decide) rfl (fun ls hl => ?_)
  refine lv_iload hx hb dX0_meaningAt_17 (lv_at hl 0 rfl) ?_
  refine lv_bipush (v := nI 10) hx hb dX0_meaningAt_19 (by decide) ?_
  refine lv_icmp_ne (tgt := 29) hx hb dX0_meaningAt_21 (by decide) (fun h21 => ?_) (fun h21 => ?_)
  · skip
    have h21 : ¬ ((sgn σ k d p) = 10) := fun q => h21 ((nI_eq (by omega) (by omega)).mpr q)
    refine lv_aload_n hx hb dX0_meaningAt_29 rfl (lv_at hl 1 rfl) ?_
    refine va_get (D := G.1) (ci := 0) (v := .ref (a 2)) (C := RX0) (T := TX0) (N := 10) hx hb hts hinX0 hown hG.1 hP 0 rfl rfl 1 (by decide) hf15 (fun _ h9 => h9) rfl dX0_meaningAt_30 ?_
    refine lv_iload_n hx hb dX0_meaningAt_33 rfl (lv_at hl 2 rfl) ?_
    refine lv_bipush (v := nI 10) hx hb dX0_meaningAt_34 (by decide) ?_
    refine lv_imul hx hb dX0_meaningAt_36 ?_
    refine lv_topi (nm_r (e' := nI (k * 10)) (pk_mul _ _) ?_)
    refine lv_iload hx hb dX0_meaningAt_37 (lv_at hl 0 rfl) ?_
    refine lv_iadd hx hb dX0_meaningAt_39 ?_
    refine lv_topi (nm_r (e' := nI ((k * 10) + (sgn σ k d p))) (nI_add _ _) ?_)
    refine lv_bipush (v := (-4)) hx hb dX0_meaningAt_40 (by decide) ?_
    refine zrdN (As := [.ref (a 2), .int (nI ((k * 10) + (sgn σ k d p))), .int (-4)]) ⟨hx, hb, hml, hown, hts⟩ (kX4_valueAt l G (a 2) 360 (fun i => nI (mnF σ i)) ((k * 10) + (sgn σ k d p)) (-4) (by omega) (by omega)) ⟨va_cnB 3 hts gX0_meaningAt_X4_valueAt_n93 rfl rfl rfl (hG.2.2.2.2.2.2.1) (hts _ hz93) (by decide +kernel) ⟨Nat.le_of_ble_eq_true rfl, Nat.le_of_ble_eq_true rfl⟩, hts _ hy93, trivial⟩ hG (hP.sub [2] rfl) rfl rfl hl.1 dX0_meaningAt_42 (Nat.le_of_ble_eq_true rfl) ⟨Nat.le_of_ble_eq_true rfl, Nat.le_of_ble_eq_true rfl⟩ ?_
    refine lv_topi (nm_r (e' := nI (mng σ k (sgn σ k d p))) (by rw [mnF_at σ (by omega)]) ?_)
    exact hret _ _ _ dX0_meaningAt_45 (by unfold mns; rw [if_neg h21, zc_n (by have := hO.mg hk (show sgn σ k d p < 10 by omega); omega)])
  · skip
    have h21 : (sgn σ k d p) = 10 := (nI_eq (by omega) (by omega)).mp h21
    refine lv_bipush (v := (-4)) hx hb dX0_meaningAt_24 (by decide) ?_
    refine lv_goto (tgt := 45) hx hb dX0_meaningAt_26 (by decide) ?_
    exact hret _ _ _ dX0_meaningAt_45 ((show (-4 : Int32) = _ by unfold mns; rw [if_pos h21, zc_b]))
set_option maxHeartbeats 4000000 in
set_option maxRecDepth 100000 in
theorem kX0_isAgreed (l : Launch) (G : zG) (a : Nat → Nat) (σ : Nat → Nat) {N : Nat} (e : Nat) (hO : Ok N σ) (he : e < 60) : Met l yX0_isAgreed wsX0_isAgreed (zRm 1 22) (zPc G [.ref (a 0), .int (nI e)] (va_P G.1 vwCl (wA G a σ))) (zS (.int (if agn σ e = 1 then 1 else 0))) 0 0 (fun _ => False) := by
  refine zmkZ (cc := cX0_isAgreed) (maxL := 2) (by decide) rfl (Nat.le_of_ble_eq_true rfl) ?_
  intro pr en st mi ar bl me cd ls Q hx hb hml hown hts hG hP hl hret
  have hown : st.vm.findClass RX0 = some mi.cls := hown
  have hl : lv_has ls 2 [(0, .ref (a 0)), (1, .int (nI e))] := hl
  have hP : va_P G.1 vwCl (wA G a σ) st.heap := hP
  have hinX0 : ∀ w ∈ wsX00, w ∈ wsX0_isAgreed := by decide +kernel
  have hf27 := hts (.fieldLink RX0 27 "MapSheets$Atlas" "agreed" "[I") (by decide +kernel)
  have hz93 : Cond.initialized RX4 ∈ wsX0_isAgreed := by decide +kernel
  have hy93 : Cond.static yX4_valueAt ∈ wsX0_isAgreed := by decide +kernel
  have hc := hO.c
  have hs := hO.lS
  have hr := hO.lR
  have hne := hO.lE
  have hag : agn σ e < 2 ^ 31 := by have := hO.ag he; omega
  refine lv_aload_n hx hb dX0_isAgreed_0 rfl (lv_at hl 0 rfl) ?_
  refine va_get (D := G.1) (ci := 0) (v := .ref (a 6)) (C := RX0) (T := TX0) (N := 10) hx hb hts hinX0 hown hG.1 hP 0 rfl rfl 5 (by decide) hf27 (fun _ h9 => h9) rfl dX0_isAgreed_1 ?_
  refine lv_iload_n hx hb dX0_isAgreed_4 rfl (lv_at hl 1 rfl) ?_
  refine lv_iconst (v := nI 0) hx hb dX0_isAgreed_5 (by decide) ?_
  refine zrdN (As := [.ref (a 6), .int (nI e), .int (nI 0)]) ⟨hx, hb, hml, hown, hts⟩ (kX4_valueAt l G (a 6) 60 (fun e => nI (agF σ e)) e (nI 0) (by omega) (by omega)) ⟨va_cnB 3 hts gX0_isAgreed_X4_valueAt_n93 rfl rfl rfl (hG.2.2.2.2.2.2.1) (hts _ hz93) (by decide +kernel) ⟨Nat.le_of_ble_eq_true rfl, Nat.le_of_ble_eq_true rfl⟩, hts _ hy93, trivial⟩ hG (hP.sub [6] rfl) rfl rfl hl.1 dX0_isAgreed_6 (Nat.le_of_ble_eq_true rfl) ⟨Nat.le_of_ble_eq_true rfl, Nat.le_of_ble_eq_true rfl⟩ ?_
  refine lv_iconst (v := nI 1) hx hb dX0_isAgreed_9 (by decide) ?_
  refine lv_icmp_ne (tgt := 17) hx hb dX0_isAgreed_10 (by decide) (fun h10 => ?_) (fun h10 => ?_)
  · skip
    have h10 : ¬ (agF σ e = 1) := fun q => h10 ((nI_eq (by rw [agF_at he]; omega) (by omega)).mpr q)
    refine lv_iconst (v := nI 0) hx hb dX0_isAgreed_17 (by decide) ?_
    exact hret _ _ _ dX0_isAgreed_18 (z_f (by rw [← agF_at he]; exact h10))
  · skip
    have h10 : agF σ e = 1 := (nI_eq (by rw [agF_at he]; omega) (by omega)).mp h10
    refine lv_iconst (v := nI 1) hx hb dX0_isAgreed_13 (by decide) ?_
    refine lv_goto (tgt := 18) hx hb dX0_isAgreed_14 (by decide) ?_
    exact hret _ _ _ dX0_isAgreed_18 (z_t (by rw [← agF_at he]; exact h10))
set_option maxHeartbeats 4000000 in
set_option maxRecDepth 100000 in
theorem kX0_isAgreed_no (l : Launch) (G : zG) (a : Nat → Nat) (σ : Nat → Nat) (e : Int32) (hn : e < 0) : Met l yX0_isAgreed wsX0_isAgreed (zRm 1 22) (zPc G [.ref (a 0), .int e] (va_P G.1 vwCl (wA G a σ))) (zS (.int (if False then 1 else 0))) 0 0 (fun _ => False) := by
  refine zmkZ (cc := cX0_isAgreed) (maxL := 2) (by decide) rfl (Nat.le_of_ble_eq_true rfl) ?_
  intro pr en st mi ar bl me cd ls Q hx hb hml hown hts hG hP hl hret
  have hown : st.vm.findClass RX0 = some mi.cls := hown
  have hl : lv_has ls 2 [(0, .ref (a 0)), (1, .int e)] := hl
  have hP : va_P G.1 vwCl (wA G a σ) st.heap := hP
  have hinX0 : ∀ w ∈ wsX00, w ∈ wsX0_isAgreed := by decide +kernel
  have hf27 := hts (.fieldLink RX0 27 "MapSheets$Atlas" "agreed" "[I") (by decide +kernel)
  have hz93 : Cond.initialized RX4 ∈ wsX0_isAgreed := by decide +kernel
  have hy93 : Cond.static yX4_valueAt ∈ wsX0_isAgreed := by decide +kernel
  refine lv_aload_n hx hb dX0_isAgreed_0 rfl (lv_at hl 0 rfl) ?_
  refine va_get (D := G.1) (ci := 0) (v := .ref (a 6)) (C := RX0) (T := TX0) (N := 10) hx hb hts hinX0 hown hG.1 hP 0 rfl rfl 5 (by decide) hf27 (fun _ h9 => h9) rfl dX0_isAgreed_1 ?_
  refine lv_iload_n hx hb dX0_isAgreed_4 rfl (lv_at hl 1 rfl) ?_
  refine lv_iconst (v := nI 0) hx hb dX0_isAgreed_5 (by decide) ?_
  refine zrdN (As := [.ref (a 6), .int e, .int (nI 0)]) ⟨hx, hb, hml, hown, hts⟩ (kX4_valueAt_no l G (a 6) 60 (fun e => nI (agF σ e)) e (nI 0) (hn)) ⟨va_cnB 3 hts gX0_isAgreed_X4_valueAt_n93 rfl rfl rfl (hG.2.2.2.2.2.2.1) (hts _ hz93) (by decide +kernel) ⟨Nat.le_of_ble_eq_true rfl, Nat.le_of_ble_eq_true rfl⟩, hts _ hy93, trivial⟩ hG (hP.sub [6] rfl) rfl rfl hl.1 dX0_isAgreed_6 (Nat.le_of_ble_eq_true rfl) ⟨Nat.le_of_ble_eq_true rfl, Nat.le_of_ble_eq_true rfl⟩ ?_
  refine lv_iconst (v := nI 1) hx hb dX0_isAgreed_9 (by decide) ?_
  refine lv_icmp_ne (tgt := 17) hx hb dX0_isAgreed_10 (by decide) (fun h10 => ?_) (fun h10 => ?_)
  · skip
    refine lv_iconst (v := nI 0) hx hb dX0_isAgreed_17 (by decide) ?_
    exact hret _ _ _ dX0_isAgreed_18 (z_f (id))
  · skip
    exact absurd h10 (by decide)
