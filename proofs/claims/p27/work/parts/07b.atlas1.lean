theorem kX0_isAgreed_o (l : Launch) (G : zG) (a : Nat → Nat) (σ : Nat → Nat) {N : Nat} (e : Nat) (hO : Ok N σ) (he : e ≤ 60) : Met l yX0_isAgreed wsX0_isAgreed (zRm 1 22) (zPc G [.ref (a 0), .int (zc 60 e)] (va_P G.1 vwCl (wA G a σ))) (zS (.int (if agF σ e = 1 then 1 else 0))) 0 0 (fun _ => False) := by
  by_cases q : e = 60
  · subst q
    rw [zc_b, show (if agF σ 60 = 1 then (1 : Int32) else 0) = (if False then 1 else 0) by rw [agF_60]; rfl]
    exact kX0_isAgreed_no l G a σ (-4) (by decide)
  · rw [zc_n q, agF_at (show e < 60 by omega)]
    exact kX0_isAgreed l G a σ e hO (by omega)
set_option maxHeartbeats 4000000 in
set_option maxRecDepth 100000 in
theorem kX0_revisionOf (l : Launch) (G : zG) (a : Nat → Nat) (σ : Nat → Nat) {N : Nat} (k : Nat) (hO : Ok N σ) (hk : k < 36) : Met l yX0_revisionOf wsX0_revisionOf (zRm 1 22) (zPc G [.ref (a 0), .int (nI k)] (va_P G.1 vwCl (wA G a σ))) (zS (.int (nI (rvn σ k)))) 0 0 (fun _ => False) := by
  refine zmkI (cc := cX0_revisionOf) (maxL := 2) (by decide) rfl (Nat.le_of_ble_eq_true rfl) ?_
  intro pr en st mi ar bl me cd ls Q hx hb hml hown hts hG hP hl hret
  have hown : st.vm.findClass RX0 = some mi.cls := hown
  have hl : lv_has ls 2 [(0, .ref (a 0)), (1, .int (nI k))] := hl
  have hP : va_P G.1 vwCl (wA G a σ) st.heap := hP
  have hinX0 : ∀ w ∈ wsX00, w ∈ wsX0_revisionOf := by decide +kernel
  have hf18 := hts (.fieldLink RX0 18 "MapSheets$Atlas" "revisions" "[I") (by decide +kernel)
  have hz93 : Cond.initialized RX4 ∈ wsX0_revisionOf := by decide +kernel
  have hy93 : Cond.static yX4_valueAt ∈ wsX0_revisionOf := by decide +kernel
  have hc := hO.c
  have hs := hO.lS
  have hr := hO.lR
  have hne := hO.lE
  refine lv_aload_n hx hb dX0_revisionOf_0 rfl (lv_at hl 0 rfl) ?_
  refine va_get (D := G.1) (ci := 0) (v := .ref (a 3)) (C := RX0) (T := TX0) (N := 10) hx hb hts hinX0 hown hG.1 hP 0 rfl rfl 2 (by decide) hf18 (fun _ h9 => h9) rfl dX0_revisionOf_1 ?_
  refine lv_iload_n hx hb dX0_revisionOf_4 rfl (lv_at hl 1 rfl) ?_
  refine lv_iconst (v := nI 0) hx hb dX0_revisionOf_5 (by decide) ?_
  refine zrdN (As := [.ref (a 3), .int (nI k), .int (nI 0)]) ⟨hx, hb, hml, hown, hts⟩ (kX4_valueAt l G (a 3) 36 (fun k => nI (rvn σ k)) k (nI 0) (by omega) (by omega)) ⟨va_cnB 3 hts gX0_revisionOf_X4_valueAt_n93 rfl rfl rfl (hG.2.2.2.2.2.2.1) (hts _ hz93) (by decide +kernel) ⟨Nat.le_of_ble_eq_true rfl, Nat.le_of_ble_eq_true rfl⟩, hts _ hy93, trivial⟩ hG (hP.sub [3] rfl) rfl rfl hl.1 dX0_revisionOf_6 (Nat.le_of_ble_eq_true rfl) ⟨Nat.le_of_ble_eq_true rfl, Nat.le_of_ble_eq_true rfl⟩ ?_
  exact hret _ _ _ dX0_revisionOf_9 (congrArg nI (rfl))
set_option maxHeartbeats 4000000 in
set_option maxRecDepth 100000 in
theorem kX0_publishedOf (l : Launch) (G : zG) (a : Nat → Nat) (σ : Nat → Nat) {N : Nat} (k : Nat) (hO : Ok N σ) (hk : k < 36) : Met l yX0_publishedOf wsX0_publishedOf (zRm 1 22) (zPc G [.ref (a 0), .int (nI k)] (va_P G.1 vwCl (wA G a σ))) (zS (.int (pbF σ k))) 0 0 (fun _ => False) := by
  refine zmkI (cc := cX0_publishedOf) (maxL := 2) (by decide) rfl (Nat.le_of_ble_eq_true rfl) ?_
  intro pr en st mi ar bl me cd ls Q hx hb hml hown hts hG hP hl hret
  have hown : st.vm.findClass RX0 = some mi.cls := hown
  have hl : lv_has ls 2 [(0, .ref (a 0)), (1, .int (nI k))] := hl
  have hP : va_P G.1 vwCl (wA G a σ) st.heap := hP
  have hinX0 : ∀ w ∈ wsX00, w ∈ wsX0_publishedOf := by decide +kernel
  have hf21 := hts (.fieldLink RX0 21 "MapSheets$Atlas" "published" "[I") (by decide +kernel)
  have hz93 : Cond.initialized RX4 ∈ wsX0_publishedOf := by decide +kernel
  have hy93 : Cond.static yX4_valueAt ∈ wsX0_publishedOf := by decide +kernel
  have hc := hO.c
  have hs := hO.lS
  have hr := hO.lR
  have hne := hO.lE
  refine lv_aload_n hx hb dX0_publishedOf_0 rfl (lv_at hl 0 rfl) ?_
  refine va_get (D := G.1) (ci := 0) (v := .ref (a 4)) (C := RX0) (T := TX0) (N := 10) hx hb hts hinX0 hown hG.1 hP 0 rfl rfl 3 (by decide) hf21 (fun _ h9 => h9) rfl dX0_publishedOf_1 ?_
  refine lv_iload_n hx hb dX0_publishedOf_4 rfl (lv_at hl 1 rfl) ?_
  refine lv_iconst (v := (-1)) hx hb dX0_publishedOf_5 (by decide) ?_
  refine zrdN (As := [.ref (a 4), .int (nI k), .int (-1)]) ⟨hx, hb, hml, hown, hts⟩ (kX4_valueAt l G (a 4) 36 (fun k => pbF σ k) k (-1) (by omega) (by omega)) ⟨va_cnB 3 hts gX0_publishedOf_X4_valueAt_n93 rfl rfl rfl (hG.2.2.2.2.2.2.1) (hts _ hz93) (by decide +kernel) ⟨Nat.le_of_ble_eq_true rfl, Nat.le_of_ble_eq_true rfl⟩, hts _ hy93, trivial⟩ hG (hP.sub [4] rfl) rfl rfl hl.1 dX0_publishedOf_6 (Nat.le_of_ble_eq_true rfl) ⟨Nat.le_of_ble_eq_true rfl, Nat.le_of_ble_eq_true rfl⟩ ?_
  exact hret _ _ _ dX0_publishedOf_9 (rfl)
set_option maxHeartbeats 4000000 in
set_option maxRecDepth 100000 in
theorem kX0_isPublished (l : Launch) (G : zG) (a : Nat → Nat) (σ : Nat → Nat) {N : Nat} (k : Nat) (hO : Ok N σ) (hk : k < 36) : Met l yX0_isPublished wsX0_isPublished (zRm 2 43) (zPc G [.ref (a 0), .int (nI k)] (va_P G.1 vwCl (wA G a σ))) (zS (.int (if ¬ (pbn σ k = 0) then 1 else 0))) 0 0 (fun _ => False) := by
  refine zmkZ (cc := cX0_isPublished) (maxL := 2) (by decide) rfl (Nat.le_of_ble_eq_true rfl) ?_
  intro pr en st mi ar bl me cd ls Q hx hb hml hown hts hG hP hl hret
  have hown : st.vm.findClass RX0 = some mi.cls := hown
  have hl : lv_has ls 2 [(0, .ref (a 0)), (1, .int (nI k))] := hl
  have hP : va_P G.1 vwCl (wA G a σ) st.heap := hP
  have hc := hO.c
  have hs := hO.lS
  have hr := hO.lR
  have hne := hO.lE
  refine lv_aload_n hx hb dX0_isPublished_0 rfl (lv_at hl 0 rfl) ?_
  refine lv_iload_n hx hb dX0_isPublished_1 rfl (lv_at hl 1 rfl) ?_
  refine zrdV (As := [.int (nI k)]) ⟨hx, hb, hml, hown, hts⟩ (kX0_publishedOf l G a σ k (hO) (by omega)) (cwV 1 hts gX0_isPublished_X0_publishedOf rfl rfl rfl (by decide +kernel) ⟨Nat.le_of_ble_eq_true rfl, Nat.le_of_ble_eq_true rfl⟩) hG (va_recv (q0 := 0) (ci := 0) hG.1 hP rfl rfl) (hP) rfl rfl hl.1 dX0_isPublished_2 (Nat.le_of_ble_eq_true rfl) ⟨Nat.le_of_ble_eq_true rfl, Nat.le_of_ble_eq_true rfl⟩ ?_
  have hf2_0 := hO.pb (show k < 36 by omega)
  have hf2_1 := hO.N
  refine lv_iconst (v := (-1)) hx hb dX0_isPublished_5 (by decide) ?_
  refine lv_icmp_eq (tgt := 13) hx hb dX0_isPublished_6 (by decide) (fun h6 => ?_) (fun h6 => ?_)
  · skip
    have h6 : pbn σ k = 0 := (pbF_m1 (by omega)).mp h6
    refine lv_iconst (v := nI 0) hx hb dX0_isPublished_13 (by decide) ?_
    exact hret _ _ _ dX0_isPublished_14 (z_f (by first | exact h6 | exact fun q => q h6))
  · skip
    have h6 : ¬ (pbn σ k = 0) := fun q => h6 ((pbF_m1 (by omega)).mpr q)
    refine lv_iconst (v := nI 1) hx hb dX0_isPublished_9 (by decide) ?_
    refine lv_goto (tgt := 14) hx hb dX0_isPublished_10 (by decide) ?_
    exact hret _ _ _ dX0_isPublished_14 (z_t (by first | exact h6 | exact fun q => q h6))
set_option maxHeartbeats 4000000 in
set_option maxRecDepth 100000 in
theorem kX0_isUpToDate (l : Launch) (G : zG) (a : Nat → Nat) (σ : Nat → Nat) {N : Nat} (k : Nat) (hO : Ok N σ) (hk : k < 36) : Met l yX0_isUpToDate wsX0_isUpToDate (zRm 3 64) (zPc G [.ref (a 0), .int (nI k)] (va_P G.1 vwCl (wA G a σ))) (zS (.int (if pbn σ k = rvn σ k + 1 then 1 else 0))) 0 0 (fun _ => False) := by
  refine zmkZ (cc := cX0_isUpToDate) (maxL := 2) (by decide) rfl (Nat.le_of_ble_eq_true rfl) ?_
  intro pr en st mi ar bl me cd ls Q hx hb hml hown hts hG hP hl hret
  have hown : st.vm.findClass RX0 = some mi.cls := hown
  have hl : lv_has ls 2 [(0, .ref (a 0)), (1, .int (nI k))] := hl
  have hP : va_P G.1 vwCl (wA G a σ) st.heap := hP
  have hc := hO.c
  have hs := hO.lS
  have hr := hO.lR
  have hne := hO.lE
  refine lv_aload_n hx hb dX0_isUpToDate_0 rfl (lv_at hl 0 rfl) ?_
  refine lv_iload_n hx hb dX0_isUpToDate_1 rfl (lv_at hl 1 rfl) ?_
  refine zrdV (As := [.int (nI k)]) ⟨hx, hb, hml, hown, hts⟩ (kX0_isPublished l G a σ k (hO) (by omega)) (cwV 1 hts gX0_isUpToDate_X0_isPublished rfl rfl rfl (by decide +kernel) ⟨Nat.le_of_ble_eq_true rfl, Nat.le_of_ble_eq_true rfl⟩) hG (va_recv (q0 := 0) (ci := 0) hG.1 hP rfl rfl) (hP) rfl rfl hl.1 dX0_isUpToDate_2 (Nat.le_of_ble_eq_true rfl) ⟨Nat.le_of_ble_eq_true rfl, Nat.le_of_ble_eq_true rfl⟩ ?_
  refine lv_if_eq (tgt := 25) hx hb dX0_isUpToDate_5 (by decide) (fun h5 => ?_) (fun h5 => ?_)
  · skip
    have h5 : ¬ (¬ (pbn σ k = 0)) := (z_b0).mp h5
    refine lv_iconst (v := nI 0) hx hb dX0_isUpToDate_25 (by decide) ?_
    exact hret _ _ _ dX0_isUpToDate_26 (z_f (by first | exact h18 | omega))
  · skip
    have h5 : ¬ (¬ (¬ (pbn σ k = 0))) := fun q => h5 ((z_b0).mpr q)
    have h5 : ¬ (pbn σ k = 0) := Decidable.of_not_not h5
    refine lv_aload_n hx hb dX0_isUpToDate_8 rfl (lv_at hl 0 rfl) ?_
    refine lv_iload_n hx hb dX0_isUpToDate_9 rfl (lv_at hl 1 rfl) ?_
    refine zrdV (As := [.int (nI k)]) ⟨hx, hb, hml, hown, hts⟩ (kX0_publishedOf l G a σ k (hO) (by omega)) (cwV 1 hts gX0_isUpToDate_X0_publishedOf rfl rfl rfl (by decide +kernel) ⟨Nat.le_of_ble_eq_true rfl, Nat.le_of_ble_eq_true rfl⟩) hG (va_recv (q0 := 0) (ci := 0) hG.1 hP rfl rfl) (hP) rfl rfl hl.1 dX0_isUpToDate_10 (Nat.le_of_ble_eq_true rfl) ⟨Nat.le_of_ble_eq_true rfl, Nat.le_of_ble_eq_true rfl⟩ ?_
    have hf10_0 := hO.pb (show k < 36 by omega)
    have hf10_1 := hO.N
    refine lv_aload_n hx hb dX0_isUpToDate_13 rfl (lv_at hl 0 rfl) ?_
    refine lv_iload_n hx hb dX0_isUpToDate_14 rfl (lv_at hl 1 rfl) ?_
    refine zrdV (As := [.int (nI k)]) ⟨hx, hb, hml, hown, hts⟩ (kX0_revisionOf l G a σ k (hO) (by omega)) (cwV 1 hts gX0_isUpToDate_X0_revisionOf rfl rfl rfl (by decide +kernel) ⟨Nat.le_of_ble_eq_true rfl, Nat.le_of_ble_eq_true rfl⟩) hG (va_recv (q0 := 0) (ci := 0) hG.1 hP rfl rfl) (hP) rfl rfl hl.1 dX0_isUpToDate_15 (Nat.le_of_ble_eq_true rfl) ⟨Nat.le_of_ble_eq_true rfl, Nat.le_of_ble_eq_true rfl⟩ ?_
    have hf15_0 := hO.rv (show k < 36 by omega)
    have hf15_1 := hO.N
    refine lv_icmp_ne (tgt := 25) hx hb dX0_isUpToDate_18 (by decide) (fun h18 => ?_) (fun h18 => ?_)
    · skip
      have h18 : ¬ (pbn σ k = rvn σ k + 1) := fun q => h18 ((pbF_eq (by omega) (by omega)).mpr q)
      refine lv_iconst (v := nI 0) hx hb dX0_isUpToDate_25 (by decide) ?_
      exact hret _ _ _ dX0_isUpToDate_26 (z_f (by first | exact h18 | omega))
    · skip
      have h18 : pbn σ k = rvn σ k + 1 := (pbF_eq (by omega) (by omega)).mp h18
      refine lv_iconst (v := nI 1) hx hb dX0_isUpToDate_21 (by decide) ?_
      refine lv_goto (tgt := 26) hx hb dX0_isUpToDate_22 (by decide) ?_
      exact hret _ _ _ dX0_isUpToDate_26 (z_t (by first | exact h18 | omega))
set_option maxHeartbeats 4000000 in
set_option maxRecDepth 100000 in
theorem kX0_scaleOf (l : Launch) (G : zG) (a : Nat → Nat) (σ : Nat → Nat) {N : Nat} (k : Nat) (hO : Ok N σ) (hk : k < 36) : Met l yX0_scaleOf wsX0_scaleOf (zRm 1 22) (zPc G [.ref (a 0), .int (nI k)] (va_P G.1 vwCl (wA G a σ))) (zS (.int (nI (scn σ k)))) 0 0 (fun _ => False) := by
  refine zmkI (cc := cX0_scaleOf) (maxL := 2) (by decide) rfl (Nat.le_of_ble_eq_true rfl) ?_
  intro pr en st mi ar bl me cd ls Q hx hb hml hown hts hG hP hl hret
  have hown : st.vm.findClass RX0 = some mi.cls := hown
  have hl : lv_has ls 2 [(0, .ref (a 0)), (1, .int (nI k))] := hl
  have hP : va_P G.1 vwCl (wA G a σ) st.heap := hP
  have hinX0 : ∀ w ∈ wsX00, w ∈ wsX0_scaleOf := by decide +kernel
  have hf24 := hts (.fieldLink RX0 24 "MapSheets$Atlas" "scales" "[I") (by decide +kernel)
  have hz93 : Cond.initialized RX4 ∈ wsX0_scaleOf := by decide +kernel
  have hy93 : Cond.static yX4_valueAt ∈ wsX0_scaleOf := by decide +kernel
  have hc := hO.c
  have hs := hO.lS
  have hr := hO.lR
  have hne := hO.lE
  refine lv_aload_n hx hb dX0_scaleOf_0 rfl (lv_at hl 0 rfl) ?_
  refine va_get (D := G.1) (ci := 0) (v := .ref (a 5)) (C := RX0) (T := TX0) (N := 10) hx hb hts hinX0 hown hG.1 hP 0 rfl rfl 4 (by decide) hf24 (fun _ h9 => h9) rfl dX0_scaleOf_1 ?_
  refine lv_iload_n hx hb dX0_scaleOf_4 rfl (lv_at hl 1 rfl) ?_
  refine lv_sipush (v := nI 1000) hx hb dX0_scaleOf_5 (by decide) ?_
  refine zrdN (As := [.ref (a 5), .int (nI k), .int (nI 1000)]) ⟨hx, hb, hml, hown, hts⟩ (kX4_valueAt l G (a 5) 36 (fun k => nI (scn σ k)) k (nI 1000) (by omega) (by omega)) ⟨va_cnB 3 hts gX0_scaleOf_X4_valueAt_n93 rfl rfl rfl (hG.2.2.2.2.2.2.1) (hts _ hz93) (by decide +kernel) ⟨Nat.le_of_ble_eq_true rfl, Nat.le_of_ble_eq_true rfl⟩, hts _ hy93, trivial⟩ hG (hP.sub [5] rfl) rfl rfl hl.1 dX0_scaleOf_8 (Nat.le_of_ble_eq_true rfl) ⟨Nat.le_of_ble_eq_true rfl, Nat.le_of_ble_eq_true rfl⟩ ?_
  exact hret _ _ _ dX0_scaleOf_11 (congrArg nI (rfl))
set_option maxHeartbeats 4000000 in
set_option maxRecDepth 100000 in
theorem kX0_reasonAt (l : Launch) (G : zG) (a : Nat → Nat) (σ : Nat → Nat) {N : Nat} (e : Nat) (p : Nat) (hO : Ok N σ) (he : e < nE σ) (hp : p < 10) : Met l yX0_reasonAt wsX0_reasonAt (zRm 2 46) (zPc G [.ref (a 0), .int (nI e), .int (nI p)] (va_P G.1 vwCl (wA G a σ))) (zS (.int (nI (rsn σ e p)))) 0 0 (fun _ => False) := by
  refine zmkI (cc := cX0_reasonAt) (maxL := 5) (by decide) rfl (Nat.le_of_ble_eq_true rfl) ?_
  intro pr en st mi ar bl me cd ls Q hx hb hml hown hts hG hP hl hret
  have hown : st.vm.findClass RX0 = some mi.cls := hown
  have hl : lv_has ls 5 [(0, .ref (a 0)), (1, .int (nI e)), (2, .int (nI p))] := hl
  have hP : va_P G.1 vwCl (wA G a σ) st.heap := hP
  have hc := hO.c
  have hs := hO.lS
  have hr := hO.lR
  have hne := hO.lE
  have hd1 := fD_lt σ e
  have hd2 := sD_lt σ e
  have hf := hO.lF he
  refine lv_aload_n hx hb dX0_reasonAt_0 rfl (lv_at hl 0 rfl) ?_
  refine lv_aload_n hx hb dX0_reasonAt_1 rfl (lv_at hl 0 rfl) ?_
  refine lv_iload_n hx hb dX0_reasonAt_2 rfl (lv_at hl 1 rfl) ?_
  refine zrdV (As := [.int (nI e)]) ⟨hx, hb, hml, hown, hts⟩ (kX0_firstSheet l G a σ e (hO) (by omega)) (cwV 1 hts gX0_reasonAt_X0_firstSheet rfl rfl rfl (by decide +kernel) ⟨Nat.le_of_ble_eq_true rfl, Nat.le_of_ble_eq_true rfl⟩) hG (va_recv (q0 := 0) (ci := 0) hG.1 hP rfl rfl) (hP) rfl rfl hl.1 dX0_reasonAt_3 (Nat.le_of_ble_eq_true rfl) ⟨Nat.le_of_ble_eq_true rfl, Nat.le_of_ble_eq_true rfl⟩ ?_
  have hf3_0 := hO.lF (show e < nE σ by omega)
  refine lv_aload_n hx hb dX0_reasonAt_6 rfl (lv_at hl 0 rfl) ?_
  refine lv_iload_n hx hb dX0_reasonAt_7 rfl (lv_at hl 1 rfl) ?_
  refine zrdV (As := [.int (nI e)]) ⟨hx, hb, hml, hown, hts⟩ (kX0_firstSide l G a σ e (hO) (by omega)) (cwV 1 hts gX0_reasonAt_X0_firstSide rfl rfl rfl (by decide +kernel) ⟨Nat.le_of_ble_eq_true rfl, Nat.le_of_ble_eq_true rfl⟩) hG (va_recv (q0 := 0) (ci := 0) hG.1 hP rfl rfl) (hP) rfl rfl hl.1 dX0_reasonAt_8 (Nat.le_of_ble_eq_true rfl) ⟨Nat.le_of_ble_eq_true rfl, Nat.le_of_ble_eq_true rfl⟩ ?_
  refine lv_iload_n hx hb dX0_reasonAt_11 rfl (lv_at hl 2 rfl) ?_
  refine zrdV (As := [.int (nI (fS σ e)), .int (nI (fD σ e)), .int (nI p)]) ⟨hx, hb, hml, hown, hts⟩ (kX0_meaningAt l G a σ (fS σ e) (fD σ e) p (hO) (by omega) (by omega) (by omega)) (cwV 3 hts gX0_reasonAt_X0_meaningAt rfl rfl rfl (by decide +kernel) ⟨Nat.le_of_ble_eq_true rfl, Nat.le_of_ble_eq_true rfl⟩) hG (va_recv (q0 := 0) (ci := 0) hG.1 hP rfl rfl) (hP) rfl rfl hl.1 dX0_reasonAt_12 (Nat.le_of_ble_eq_true rfl) ⟨Nat.le_of_ble_eq_true rfl, Nat.le_of_ble_eq_true rfl⟩ ?_
  have hf12_0 := hO.mn (show (fS σ e) < 36 by omega) (show (fD σ e) < 4 by omega) (show p < 10 by omega)
  refine lv_istore_n (lv' := [(3, .int (zc 10 (mns σ (fS σ e) (fD σ e) p))), (0, .ref (a 0)), (1, .int (nI e)), (2, .int (nI p))]) hx hb dX0_reasonAt_15 rfl hl (by decide) rfl (fun ls hl => ?_)
  refine lv_aload_n hx hb dX0_reasonAt_16 rfl (lv_at hl 1 rfl) ?_
  refine lv_aload_n hx hb dX0_reasonAt_17 rfl (lv_at hl 1 rfl) ?_
  refine lv_iload_n hx hb dX0_reasonAt_18 rfl (lv_at hl 2 rfl) ?_
  refine zrdV (As := [.int (nI e)]) ⟨hx, hb, hml, hown, hts⟩ (kX0_secondSheet l G a σ e (hO) (by omega)) (cwV 1 hts gX0_reasonAt_X0_secondSheet rfl rfl rfl (by decide +kernel) ⟨Nat.le_of_ble_eq_true rfl, Nat.le_of_ble_eq_true rfl⟩) hG (va_recv (q0 := 0) (ci := 0) hG.1 hP rfl rfl) (hP) rfl rfl hl.1 dX0_reasonAt_19 (Nat.le_of_ble_eq_true rfl) ⟨Nat.le_of_ble_eq_true rfl, Nat.le_of_ble_eq_true rfl⟩ ?_
  have hf19_0 := hO.lF (show e < nE σ by omega)
  refine lv_aload_n hx hb dX0_reasonAt_22 rfl (lv_at hl 1 rfl) ?_
  refine lv_iload_n hx hb dX0_reasonAt_23 rfl (lv_at hl 2 rfl) ?_
  refine zrdV (As := [.int (nI e)]) ⟨hx, hb, hml, hown, hts⟩ (kX0_secondSide l G a σ e (hO) (by omega)) (cwV 1 hts gX0_reasonAt_X0_secondSide rfl rfl rfl (by decide +kernel) ⟨Nat.le_of_ble_eq_true rfl, Nat.le_of_ble_eq_true rfl⟩) hG (va_recv (q0 := 0) (ci := 0) hG.1 hP rfl rfl) (hP) rfl rfl hl.1 dX0_reasonAt_24 (Nat.le_of_ble_eq_true rfl) ⟨Nat.le_of_ble_eq_true rfl, Nat.le_of_ble_eq_true rfl⟩ ?_
  refine lv_iload_n hx hb dX0_reasonAt_27 rfl (lv_at hl 3 rfl) ?_
  refine zrdV (As := [.int (nI (sS σ e)), .int (nI (sD σ e)), .int (nI p)]) ⟨hx, hb, hml, hown, hts⟩ (kX0_meaningAt l G a σ (sS σ e) (sD σ e) p (hO) (by omega) (by omega) (by omega)) (cwV 3 hts gX0_reasonAt_X0_meaningAt rfl rfl rfl (by decide +kernel) ⟨Nat.le_of_ble_eq_true rfl, Nat.le_of_ble_eq_true rfl⟩) hG (va_recv (q0 := 0) (ci := 0) hG.1 hP rfl rfl) (hP) rfl rfl hl.1 dX0_reasonAt_28 (Nat.le_of_ble_eq_true rfl) ⟨Nat.le_of_ble_eq_true rfl, Nat.le_of_ble_eq_true rfl⟩ ?_
  have hf28_0 := hO.mn (show (sS σ e) < 36 by omega) (show (sD σ e) < 4 by omega) (show p < 10 by omega)
  refine lv_istore (lv' := [(4, .int (zc 10 (mns σ (sS σ e) (sD σ e) p))), (3, .int (zc 10 (mns σ (fS σ e) (fD σ e) p))), (0, .ref (a 0)), (1, .int (nI e)), (2, .int (nI p))]) hx hb dX0_reasonAt_31 hl (by decide) rfl (fun ls hl => ?_)
  refine lv_iload_n hx hb dX0_reasonAt_33 rfl (lv_at hl 1 rfl) ?_
  refine lv_iload hx hb dX0_reasonAt_34 (lv_at hl 0 rfl) ?_
  refine lv_icmp_ne (tgt := 41) hx hb dX0_reasonAt_36 (by decide) (fun h36 => ?_) (fun h36 => ?_)
  · skip
    have h36 : ¬ (mns σ (fS σ e) (fD σ e) p = mns σ (sS σ e) (sD σ e) p) := fun q => h36 ((zc_eq (by omega) (by omega)).mpr q)
    refine lv_iload_n hx hb dX0_reasonAt_41 rfl (lv_at hl 1 rfl) ?_
    refine lv_bipush (v := (-4)) hx hb dX0_reasonAt_42 (by decide) ?_
    refine lv_icmp_eq (tgt := 54) hx hb dX0_reasonAt_44 (by decide) (fun h44 => ?_) (fun h44 => ?_)
    · skip
      have h44 : mns σ (fS σ e) (fD σ e) p = 10 := (zc_m4 (by omega)).mp h44
      refine lv_iconst (v := nI 1) hx hb dX0_reasonAt_54 (by decide) ?_
      refine lv_goto (tgt := 59) hx hb dX0_reasonAt_55 (by decide) ?_
      exact hret _ _ _ dX0_reasonAt_59 (congrArg nI (by unfold rsn; rw [if_neg h36, if_pos (by first | exact Or.inl h44 | exact Or.inr h51)]))
    · skip
      have h44 : ¬ (mns σ (fS σ e) (fD σ e) p = 10) := fun q => h44 ((zc_m4 (by omega)).mpr q)
      refine lv_iload hx hb dX0_reasonAt_47 (lv_at hl 0 rfl) ?_
      refine lv_bipush (v := (-4)) hx hb dX0_reasonAt_49 (by decide) ?_
      refine lv_icmp_ne (tgt := 58) hx hb dX0_reasonAt_51 (by decide) (fun h51 => ?_) (fun h51 => ?_)
      · skip
        have h51 : ¬ (mns σ (sS σ e) (sD σ e) p = 10) := fun q => h51 ((zc_m4 (by omega)).mpr q)
        refine lv_iconst (v := nI 2) hx hb dX0_reasonAt_58 (by decide) ?_
        exact hret _ _ _ dX0_reasonAt_59 (congrArg nI (by unfold rsn; rw [if_neg h36, if_neg (fun q => q.elim h44 h51)]))
      · skip
        have h51 : mns σ (sS σ e) (sD σ e) p = 10 := (zc_m4 (by omega)).mp h51
        refine lv_iconst (v := nI 1) hx hb dX0_reasonAt_54 (by decide) ?_
        refine lv_goto (tgt := 59) hx hb dX0_reasonAt_55 (by decide) ?_
        exact hret _ _ _ dX0_reasonAt_59 (congrArg nI (by unfold rsn; rw [if_neg h36, if_pos (by first | exact Or.inl h44 | exact Or.inr h51)]))
  · skip
    have h36 : mns σ (fS σ e) (fD σ e) p = mns σ (sS σ e) (sD σ e) p := (zc_eq (by omega) (by omega)).mp h36
    refine lv_iconst (v := nI 0) hx hb dX0_reasonAt_39 (by decide) ?_
    exact hret _ _ _ dX0_reasonAt_40 (congrArg nI (by unfold rsn; rw [if_pos h36]))
set_option maxHeartbeats 4000000 in
set_option maxRecDepth 100000 in
theorem kX0_quarrelsOf (l : Launch) (G : zG) (a : Nat → Nat) (σ : Nat → Nat) {N : Nat} (e : Nat) (hO : Ok N σ) (he : e < nE σ) : Met l yX0_quarrelsOf wsX0_quarrelsOf (zRm 3 70) (zPc G [.ref (a 0), .int (nI e)] (va_P G.1 vwCl (wA G a σ))) (zS (.int (nI (qrl σ e)))) 0 0 (fun _ => False) := by
  refine zmkI (cc := cX0_quarrelsOf) (maxL := 4) (by decide) rfl (Nat.le_of_ble_eq_true rfl) ?_
  intro pr en st mi ar bl me cd ls Q hx hb hml hown hts hG hP hl hret
  have hown : st.vm.findClass RX0 = some mi.cls := hown
  have hl : lv_has ls 4 [(0, .ref (a 0)), (1, .int (nI e))] := hl
  have hP : va_P G.1 vwCl (wA G a σ) st.heap := hP
  have hc := hO.c
  have hs := hO.lS
  have hr := hO.lR
  have hne := hO.lE
  refine lv_iconst (v := nI 0) hx hb dX0_quarrelsOf_0 (by decide) ?_
  refine lv_istore_n (lv' := [(2, .int (nI 0)), (0, .ref (a 0)), (1, .int (nI e))]) hx hb dX0_quarrelsOf_1 rfl hl (by decide) rfl (fun ls hl => ?_)
  refine lv_iconst (v := nI 0) hx hb dX0_quarrelsOf_2 (by decide) ?_
  refine lv_istore_n (lv' := [(3, .int (nI 0)), (2, .int (nI 0)), (0, .ref (a 0)), (1, .int (nI e))]) hx hb dX0_quarrelsOf_3 rfl hl (by decide) rfl (fun ls hl => ?_)
  have loop4 : ∀ (n : Nat) (i : Nat) (xx : Nat) (hxx : xx = sm (fun p => if rsn σ e p = 0 then 0 else 1) i) (hi : i ≤ 10) (hn : 10 < i + n) (ls : Array Slot) (hl : lv_has ls 4 [(0, .ref (a 0)), (1, .int (nI e)), (2, .int (nI xx)), (3, .int (nI i))]), W pr l en (zRm 3 70) st mi ar bl me cd st.heap [] 0 0 Q (F0 mi 4 ls []) := by
    intro n
    induction n with
    | zero => intro i xx hxx hi hn ls hl; exfalso; omega
    | succ n ih =>
      intro i xx hxx hi hn ls hl
      refine lv_iload_n hx hb dX0_quarrelsOf_4 rfl (lv_at hl 3 rfl) ?_
      refine lv_bipush (v := nI 10) hx hb dX0_quarrelsOf_5 (by decide) ?_
      refine lv_icmp_ge (tgt := 28) hx hb dX0_quarrelsOf_7 (by decide) (fun h7 => ?_) (fun h7 => ?_)
      · skip
        have h7 : 10 ≤ i := (nI_leI (by omega) (by omega)).mp h7
        refine lv_iload_n hx hb dX0_quarrelsOf_28 rfl (lv_at hl 2 rfl) ?_
        exact hret _ _ _ dX0_quarrelsOf_29 (congrArg nI (by obtain rfl : i = 10 := (by omega); exact hxx))
      · skip
        have h7 : ¬ (10 ≤ i) := fun q => h7 ((nI_leI (by omega) (by omega)).mpr q)
        refine lv_aload_n hx hb dX0_quarrelsOf_10 rfl (lv_at hl 0 rfl) ?_
        refine lv_iload_n hx hb dX0_quarrelsOf_11 rfl (lv_at hl 1 rfl) ?_
        refine lv_iload_n hx hb dX0_quarrelsOf_12 rfl (lv_at hl 3 rfl) ?_
        refine zrdV (As := [.int (nI e), .int (nI i)]) ⟨hx, hb, hml, hown, hts⟩ (kX0_reasonAt l G a σ e i (hO) (by omega) (by omega)) (cwV 2 hts gX0_quarrelsOf_X0_reasonAt rfl rfl rfl (by decide +kernel) ⟨Nat.le_of_ble_eq_true rfl, Nat.le_of_ble_eq_true rfl⟩) hG (va_recv (q0 := 0) (ci := 0) hG.1 hP rfl rfl) (hP) rfl rfl hl.1 dX0_quarrelsOf_13 (Nat.le_of_ble_eq_true rfl) ⟨Nat.le_of_ble_eq_true rfl, Nat.le_of_ble_eq_true rfl⟩ ?_
        have hf13_0 := rsn_le σ (e) (i)
        refine lv_if_eq (tgt := 22) hx hb dX0_quarrelsOf_16 (by decide) (fun h16 => ?_) (fun h16 => ?_)
        · skip
          have h16 : (rsn σ e i) = 0 := (z_eq0 (by omega)).mp h16
          refine lv_iinc (v := nI (i + 1)) (lv' := [(3, .int (nI (i + 1))), (0, .ref (a 0)), (1, .int (nI e)), (2, .int (nI xx))]) hx hb dX0_quarrelsOf_22 hl (k := 3) rfl (zinc1 _) (by decide) rfl (fun ls hl => ?_)
          refine lv_goto (tgt := 4) hx hb dX0_quarrelsOf_25 (by decide) ?_
          exact ih (i + 1) xx (by rw [sm, ← hxx]; try (simp [h7, h16] <;> omega)) (by omega) (by omega) _ (lv_sub hl [1, 2, 3, 0] rfl)
        · skip
          have h16 : ¬ ((rsn σ e i) = 0) := fun q => h16 ((z_eq0 (by omega)).mpr q)
          have h16 : 0 < (rsn σ e i) := Nat.pos_of_ne_zero h16
          refine lv_iinc (v := nI (xx + 1)) (lv' := [(2, .int (nI (xx + 1))), (0, .ref (a 0)), (1, .int (nI e)), (3, .int (nI i))]) hx hb dX0_quarrelsOf_19 hl (k := 2) rfl (zinc1 _) (by decide) rfl (fun ls hl => ?_)
          refine lv_iinc (v := nI (i + 1)) (lv' := [(3, .int (nI (i + 1))), (2, .int (nI (xx + 1))), (0, .ref (a 0)), (1, .int (nI e))]) hx hb dX0_quarrelsOf_22 hl (k := 3) rfl (zinc1 _) (by decide) rfl (fun ls hl => ?_)
          refine lv_goto (tgt := 4) hx hb dX0_quarrelsOf_25 (by decide) ?_
          exact ih (i + 1) (xx + 1) (by rw [sm, ← hxx]; try (simp [h7, h16] <;> omega)) (by omega) (by omega) _ (lv_sub hl [2, 3, 1, 0] rfl)
  exact loop4 (10 + 1) 0 0 (rfl) (by omega) (by omega) _ (lv_sub hl [2, 3, 1, 0] rfl)
