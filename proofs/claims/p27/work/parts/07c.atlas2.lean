set_option maxHeartbeats 4000000 in
set_option maxRecDepth 100000 in
theorem kX0_edgesOf (l : Launch) (G : zG) (a : Nat → Nat) (σ : Nat → Nat) {N : Nat} (k : Nat) (hO : Ok N σ) (hk : k < nS σ) : Met l yX0_edgesOf wsX0_edgesOf (zRm 2 47) (zPc G [.ref (a 0), .int (nI k)] (va_P G.1 vwCl (wA G a σ))) (zS (.int (nI (nEd σ k)))) 0 0 (fun _ => False) := by
  refine zmkI (cc := cX0_edgesOf) (maxL := 4) (by decide) rfl (Nat.le_of_ble_eq_true rfl) ?_
  intro pr en st mi ar bl me cd ls Q hx hb hml hown hts hG hP hl hret
  have hown : st.vm.findClass RX0 = some mi.cls := hown
  have hl : lv_has ls 4 [(0, .ref (a 0)), (1, .int (nI k))] := hl
  have hP : va_P G.1 vwCl (wA G a σ) st.heap := hP
  have hc := hO.c
  have hs := hO.lS
  have hr := hO.lR
  have hne := hO.lE
  refine lv_iconst (v := nI 0) hx hb dX0_edgesOf_0 (by decide) ?_
  refine lv_istore_n (lv' := [(2, .int (nI 0)), (0, .ref (a 0)), (1, .int (nI k))]) hx hb dX0_edgesOf_1 rfl hl (by decide) rfl (fun ls hl => ?_)
  refine lv_iconst (v := nI 0) hx hb dX0_edgesOf_2 (by decide) ?_
  refine lv_istore_n (lv' := [(3, .int (nI 0)), (2, .int (nI 0)), (0, .ref (a 0)), (1, .int (nI k))]) hx hb dX0_edgesOf_3 rfl hl (by decide) rfl (fun ls hl => ?_)
  have loop4 : ∀ (n : Nat) (i : Nat) (xx : Nat) (hxx : xx = sm (fun d => if eO σ k d = 60 then 0 else 1) i) (hi : i ≤ 4) (hn : 4 < i + n) (ls : Array Slot) (hl : lv_has ls 4 [(0, .ref (a 0)), (1, .int (nI k)), (2, .int (nI xx)), (3, .int (nI i))]), W pr l en (zRm 2 47) st mi ar bl me cd st.heap [] 0 0 Q (F0 mi 4 ls []) := by
    intro n
    induction n with
    | zero => intro i xx hxx hi hn ls hl; exfalso; omega
    | succ n ih =>
      intro i xx hxx hi hn ls hl
      refine lv_iload_n hx hb dX0_edgesOf_4 rfl (lv_at hl 3 rfl) ?_
      refine lv_iconst (v := nI 4) hx hb dX0_edgesOf_5 (by decide) ?_
      refine lv_icmp_ge (tgt := 29) hx hb dX0_edgesOf_6 (by decide) (fun h6 => ?_) (fun h6 => ?_)
      · skip
        have h6 : 4 ≤ i := (nI_leI (by omega) (by omega)).mp h6
        refine lv_iload_n hx hb dX0_edgesOf_29 rfl (lv_at hl 2 rfl) ?_
        exact hret _ _ _ dX0_edgesOf_30 (congrArg nI (by obtain rfl : i = 4 := (by omega); exact hxx))
      · skip
        have h6 : ¬ (4 ≤ i) := fun q => h6 ((nI_leI (by omega) (by omega)).mpr q)
        refine lv_aload_n hx hb dX0_edgesOf_9 rfl (lv_at hl 0 rfl) ?_
        refine lv_iload_n hx hb dX0_edgesOf_10 rfl (lv_at hl 1 rfl) ?_
        refine lv_iload_n hx hb dX0_edgesOf_11 rfl (lv_at hl 3 rfl) ?_
        refine zrdV (As := [.int (nI k), .int (nI i)]) ⟨hx, hb, hml, hown, hts⟩ (kX0_edgeOf l G a σ k i (hO) (by omega) (by omega)) (cwV 2 hts gX0_edgesOf_X0_edgeOf rfl rfl rfl (by decide +kernel) ⟨Nat.le_of_ble_eq_true rfl, Nat.le_of_ble_eq_true rfl⟩) hG (va_recv (q0 := 0) (ci := 0) hG.1 hP rfl rfl) (hP) rfl rfl hl.1 dX0_edgesOf_12 (Nat.le_of_ble_eq_true rfl) ⟨Nat.le_of_ble_eq_true rfl, Nat.le_of_ble_eq_true rfl⟩ ?_
        have hf12_0 := hO.lO2 (show k < nS σ by omega) (show i < 4 by omega)
        refine lv_bipush (v := (-4)) hx hb dX0_edgesOf_15 (by decide) ?_
        refine lv_icmp_eq (tgt := 23) hx hb dX0_edgesOf_17 (by decide) (fun h17 => ?_) (fun h17 => ?_)
        · skip
          have h17 : eO σ k i = 60 := (zc_m4 (by omega)).mp h17
          refine lv_iinc (v := nI (i + 1)) (lv' := [(3, .int (nI (i + 1))), (0, .ref (a 0)), (1, .int (nI k)), (2, .int (nI xx))]) hx hb dX0_edgesOf_23 hl (k := 3) rfl (zinc1 _) (by decide) rfl (fun ls hl => ?_)
          refine lv_goto (tgt := 4) hx hb dX0_edgesOf_26 (by decide) ?_
          exact ih (i + 1) xx (by rw [sm, ← hxx]; try (simp [h6, h17] <;> omega)) (by omega) (by omega) _ (lv_sub hl [1, 2, 3, 0] rfl)
        · skip
          have h17 : ¬ (eO σ k i = 60) := fun q => h17 ((zc_m4 (by omega)).mpr q)
          refine lv_iinc (v := nI (xx + 1)) (lv' := [(2, .int (nI (xx + 1))), (0, .ref (a 0)), (1, .int (nI k)), (3, .int (nI i))]) hx hb dX0_edgesOf_20 hl (k := 2) rfl (zinc1 _) (by decide) rfl (fun ls hl => ?_)
          refine lv_iinc (v := nI (i + 1)) (lv' := [(3, .int (nI (i + 1))), (2, .int (nI (xx + 1))), (0, .ref (a 0)), (1, .int (nI k))]) hx hb dX0_edgesOf_23 hl (k := 3) rfl (zinc1 _) (by decide) rfl (fun ls hl => ?_)
          refine lv_goto (tgt := 4) hx hb dX0_edgesOf_26 (by decide) ?_
          exact ih (i + 1) (xx + 1) (by rw [sm, ← hxx]; try (simp [h6, h17] <;> omega)) (by omega) (by omega) _ (lv_sub hl [2, 3, 1, 0] rfl)
  exact loop4 (4 + 1) 0 0 (rfl) (by omega) (by omega) _ (lv_sub hl [2, 3, 1, 0] rfl)
set_option maxHeartbeats 4000000 in
set_option maxRecDepth 100000 in
theorem kX0_agreedEdgesOf (l : Launch) (G : zG) (a : Nat → Nat) (σ : Nat → Nat) {N : Nat} (k : Nat) (hO : Ok N σ) (hk : k < nS σ) : Met l yX0_agreedEdgesOf wsX0_agreedEdgesOf (zRm 2 47) (zPc G [.ref (a 0), .int (nI k)] (va_P G.1 vwCl (wA G a σ))) (zS (.int (nI (nAd σ k)))) 0 0 (fun _ => False) := by
  refine zmkI (cc := cX0_agreedEdgesOf) (maxL := 4) (by decide) rfl (Nat.le_of_ble_eq_true rfl) ?_
  intro pr en st mi ar bl me cd ls Q hx hb hml hown hts hG hP hl hret
  have hown : st.vm.findClass RX0 = some mi.cls := hown
  have hl : lv_has ls 4 [(0, .ref (a 0)), (1, .int (nI k))] := hl
  have hP : va_P G.1 vwCl (wA G a σ) st.heap := hP
  have hc := hO.c
  have hs := hO.lS
  have hr := hO.lR
  have hne := hO.lE
  refine lv_iconst (v := nI 0) hx hb dX0_agreedEdgesOf_0 (by decide) ?_
  refine lv_istore_n (lv' := [(2, .int (nI 0)), (0, .ref (a 0)), (1, .int (nI k))]) hx hb dX0_agreedEdgesOf_1 rfl hl (by decide) rfl (fun ls hl => ?_)
  refine lv_iconst (v := nI 0) hx hb dX0_agreedEdgesOf_2 (by decide) ?_
  refine lv_istore_n (lv' := [(3, .int (nI 0)), (2, .int (nI 0)), (0, .ref (a 0)), (1, .int (nI k))]) hx hb dX0_agreedEdgesOf_3 rfl hl (by decide) rfl (fun ls hl => ?_)
  have loop4 : ∀ (n : Nat) (i : Nat) (xx : Nat) (hxx : xx = sm (fun d => if agF σ (eO σ k d) = 1 then 1 else 0) i) (hi : i ≤ 4) (hn : 4 < i + n) (ls : Array Slot) (hl : lv_has ls 4 [(0, .ref (a 0)), (1, .int (nI k)), (2, .int (nI xx)), (3, .int (nI i))]), W pr l en (zRm 2 47) st mi ar bl me cd st.heap [] 0 0 Q (F0 mi 4 ls []) := by
    intro n
    induction n with
    | zero => intro i xx hxx hi hn ls hl; exfalso; omega
    | succ n ih =>
      intro i xx hxx hi hn ls hl
      refine lv_iload_n hx hb dX0_agreedEdgesOf_4 rfl (lv_at hl 3 rfl) ?_
      refine lv_iconst (v := nI 4) hx hb dX0_agreedEdgesOf_5 (by decide) ?_
      refine lv_icmp_ge (tgt := 31) hx hb dX0_agreedEdgesOf_6 (by decide) (fun h6 => ?_) (fun h6 => ?_)
      · skip
        have h6 : 4 ≤ i := (nI_leI (by omega) (by omega)).mp h6
        refine lv_iload_n hx hb dX0_agreedEdgesOf_31 rfl (lv_at hl 2 rfl) ?_
        exact hret _ _ _ dX0_agreedEdgesOf_32 (congrArg nI (by obtain rfl : i = 4 := (by omega); exact hxx))
      · skip
        have h6 : ¬ (4 ≤ i) := fun q => h6 ((nI_leI (by omega) (by omega)).mpr q)
        refine lv_aload_n hx hb dX0_agreedEdgesOf_9 rfl (lv_at hl 0 rfl) ?_
        refine lv_aload_n hx hb dX0_agreedEdgesOf_10 rfl (lv_at hl 0 rfl) ?_
        refine lv_iload_n hx hb dX0_agreedEdgesOf_11 rfl (lv_at hl 1 rfl) ?_
        refine lv_iload_n hx hb dX0_agreedEdgesOf_12 rfl (lv_at hl 3 rfl) ?_
        refine zrdV (As := [.int (nI k), .int (nI i)]) ⟨hx, hb, hml, hown, hts⟩ (kX0_edgeOf l G a σ k i (hO) (by omega) (by omega)) (cwV 2 hts gX0_agreedEdgesOf_X0_edgeOf rfl rfl rfl (by decide +kernel) ⟨Nat.le_of_ble_eq_true rfl, Nat.le_of_ble_eq_true rfl⟩) hG (va_recv (q0 := 0) (ci := 0) hG.1 hP rfl rfl) (hP) rfl rfl hl.1 dX0_agreedEdgesOf_13 (Nat.le_of_ble_eq_true rfl) ⟨Nat.le_of_ble_eq_true rfl, Nat.le_of_ble_eq_true rfl⟩ ?_
        have hf13_0 := hO.lO2 (show k < nS σ by omega) (show i < 4 by omega)
        refine zrdV (As := [.int (zc 60 (eO σ k i))]) ⟨hx, hb, hml, hown, hts⟩ (kX0_isAgreed_o l G a σ (eO σ k i) (hO) (by omega)) (cwV 1 hts gX0_agreedEdgesOf_X0_isAgreed rfl rfl rfl (by decide +kernel) ⟨Nat.le_of_ble_eq_true rfl, Nat.le_of_ble_eq_true rfl⟩) hG (va_recv (q0 := 0) (ci := 0) hG.1 hP rfl rfl) (hP) rfl rfl hl.1 dX0_agreedEdgesOf_16 (Nat.le_of_ble_eq_true rfl) ⟨Nat.le_of_ble_eq_true rfl, Nat.le_of_ble_eq_true rfl⟩ ?_
        refine lv_if_eq (tgt := 25) hx hb dX0_agreedEdgesOf_19 (by decide) (fun h19 => ?_) (fun h19 => ?_)
        · skip
          have h19 : ¬ (agF σ (eO σ k i) = 1) := (z_b0).mp h19
          refine lv_iinc (v := nI (i + 1)) (lv' := [(3, .int (nI (i + 1))), (0, .ref (a 0)), (1, .int (nI k)), (2, .int (nI xx))]) hx hb dX0_agreedEdgesOf_25 hl (k := 3) rfl (zinc1 _) (by decide) rfl (fun ls hl => ?_)
          refine lv_goto (tgt := 4) hx hb dX0_agreedEdgesOf_28 (by decide) ?_
          exact ih (i + 1) xx (by rw [sm, ← hxx]; try (simp [h6, h19] <;> omega)) (by omega) (by omega) _ (lv_sub hl [1, 2, 3, 0] rfl)
        · skip
          have h19 : ¬ (¬ (agF σ (eO σ k i) = 1)) := fun q => h19 ((z_b0).mpr q)
          have h19 : agF σ (eO σ k i) = 1 := Decidable.of_not_not h19
          refine lv_iinc (v := nI (xx + 1)) (lv' := [(2, .int (nI (xx + 1))), (0, .ref (a 0)), (1, .int (nI k)), (3, .int (nI i))]) hx hb dX0_agreedEdgesOf_22 hl (k := 2) rfl (zinc1 _) (by decide) rfl (fun ls hl => ?_)
          refine lv_iinc (v := nI (i + 1)) (lv' := [(3, .int (nI (i + 1))), (2, .int (nI (xx + 1))), (0, .ref (a 0)), (1, .int (nI k))]) hx hb dX0_agreedEdgesOf_25 hl (k := 3) rfl (zinc1 _) (by decide) rfl (fun ls hl => ?_)
          refine lv_goto (tgt := 4) hx hb dX0_agreedEdgesOf_28 (by decide) ?_
          exact ih (i + 1) (xx + 1) (by rw [sm, ← hxx]; try (simp [h6, h19] <;> omega)) (by omega) (by omega) _ (lv_sub hl [2, 3, 1, 0] rfl)
  exact loop4 (4 + 1) 0 0 (rfl) (by omega) (by omega) _ (lv_sub hl [2, 3, 1, 0] rfl)
set_option maxHeartbeats 4000000 in
set_option maxRecDepth 100000 in
theorem kX0_quarrelsOfAll (l : Launch) (G : zG) (a : Nat → Nat) (σ : Nat → Nat) {N : Nat}  (hO : Ok N σ) : Met l yX0_quarrelsOfAll wsX0_quarrelsOfAll (zRm 4 93) (zPc G [.ref (a 0)] (va_P G.1 vwCl (wA G a σ))) (zS (.int (nI (qAl σ)))) 0 0 (fun _ => False) := by
  refine zmkI (cc := cX0_quarrelsOfAll) (maxL := 4) (by decide) rfl (Nat.le_of_ble_eq_true rfl) ?_
  intro pr en st mi ar bl me cd ls Q hx hb hml hown hts hG hP hl hret
  have hown : st.vm.findClass RX0 = some mi.cls := hown
  have hl : lv_has ls 4 [(0, .ref (a 0))] := hl
  have hP : va_P G.1 vwCl (wA G a σ) st.heap := hP
  have hc := hO.c
  have hs := hO.lS
  have hr := hO.lR
  have hne := hO.lE
  refine lv_aload_n hx hb dX0_quarrelsOfAll_0 rfl (lv_at hl 0 rfl) ?_
  refine zrdV (As := []) ⟨hx, hb, hml, hown, hts⟩ (kX0_edgeCount l G a σ (hO)) (cwV 0 hts gX0_quarrelsOfAll_X0_edgeCount rfl rfl rfl (by decide +kernel) ⟨Nat.le_of_ble_eq_true rfl, Nat.le_of_ble_eq_true rfl⟩) hG (va_recv (q0 := 0) (ci := 0) hG.1 hP rfl rfl) (hP) rfl rfl hl.1 dX0_quarrelsOfAll_1 (Nat.le_of_ble_eq_true rfl) ⟨Nat.le_of_ble_eq_true rfl, Nat.le_of_ble_eq_true rfl⟩ ?_
  refine lv_istore_n (lv' := [(1, .int (nI (nE σ))), (0, .ref (a 0))]) hx hb dX0_quarrelsOfAll_4 rfl hl (by decide) rfl (fun ls hl => ?_)
  refine lv_iconst (v := nI 0) hx hb dX0_quarrelsOfAll_5 (by decide) ?_
  refine lv_istore_n (lv' := [(2, .int (nI 0)), (1, .int (nI (nE σ))), (0, .ref (a 0))]) hx hb dX0_quarrelsOfAll_6 rfl hl (by decide) rfl (fun ls hl => ?_)
  refine lv_iconst (v := nI 0) hx hb dX0_quarrelsOfAll_7 (by decide) ?_
  refine lv_istore_n (lv' := [(3, .int (nI 0)), (2, .int (nI 0)), (1, .int (nI (nE σ))), (0, .ref (a 0))]) hx hb dX0_quarrelsOfAll_8 rfl hl (by decide) rfl (fun ls hl => ?_)
  have loop9 : ∀ (n : Nat) (i : Nat) (xx : Nat) (hxx : xx = sm (fun e => qrl σ e) i) (hi : i ≤ nE σ) (hn : nE σ < i + n) (ls : Array Slot) (hl : lv_has ls 4 [(0, .ref (a 0)), (1, .int (nI (nE σ))), (2, .int (nI xx)), (3, .int (nI i))]), W pr l en (zRm 4 93) st mi ar bl me cd st.heap [] 0 0 Q (F0 mi 9 ls []) := by
    intro n
    induction n with
    | zero => intro i xx hxx hi hn ls hl; exfalso; omega
    | succ n ih =>
      intro i xx hxx hi hn ls hl
      refine lv_iload_n hx hb dX0_quarrelsOfAll_9 rfl (lv_at hl 3 rfl) ?_
      refine lv_iload_n hx hb dX0_quarrelsOfAll_10 rfl (lv_at hl 1 rfl) ?_
      refine lv_icmp_ge (tgt := 28) hx hb dX0_quarrelsOfAll_11 (by decide) (fun h11 => ?_) (fun h11 => ?_)
      · skip
        have h11 : (nE σ) ≤ i := (nI_leI (by omega) (by omega)).mp h11
        refine lv_iload_n hx hb dX0_quarrelsOfAll_28 rfl (lv_at hl 2 rfl) ?_
        exact hret _ _ _ dX0_quarrelsOfAll_29 (congrArg nI (by obtain rfl : i = nE σ := (by omega); exact hxx))
      · skip
        have h11 : ¬ ((nE σ) ≤ i) := fun q => h11 ((nI_leI (by omega) (by omega)).mpr q)
        refine lv_iload_n hx hb dX0_quarrelsOfAll_14 rfl (lv_at hl 2 rfl) ?_
        refine lv_aload_n hx hb dX0_quarrelsOfAll_15 rfl (lv_at hl 0 rfl) ?_
        refine lv_iload_n hx hb dX0_quarrelsOfAll_16 rfl (lv_at hl 3 rfl) ?_
        refine zrdV (As := [.int (nI i)]) ⟨hx, hb, hml, hown, hts⟩ (kX0_quarrelsOf l G a σ i (hO) (by omega)) (cwV 1 hts gX0_quarrelsOfAll_X0_quarrelsOf rfl rfl rfl (by decide +kernel) ⟨Nat.le_of_ble_eq_true rfl, Nat.le_of_ble_eq_true rfl⟩) hG (va_recv (q0 := 0) (ci := 0) hG.1 hP rfl rfl) (hP) rfl rfl hl.1 dX0_quarrelsOfAll_17 (Nat.le_of_ble_eq_true rfl) ⟨Nat.le_of_ble_eq_true rfl, Nat.le_of_ble_eq_true rfl⟩ ?_
        have hf17_0 := qrl_le σ (i)
        refine lv_iadd hx hb dX0_quarrelsOfAll_20 ?_
        refine lv_topi (nm_r (e' := nI (xx + (qrl σ i))) (nI_add _ _) ?_)
        refine lv_istore_n (lv' := [(2, .int (nI (xx + (qrl σ i)))), (0, .ref (a 0)), (1, .int (nI (nE σ))), (3, .int (nI i))]) hx hb dX0_quarrelsOfAll_21 rfl hl (by decide) rfl (fun ls hl => ?_)
        refine lv_iinc (v := nI (i + 1)) (lv' := [(3, .int (nI (i + 1))), (2, .int (nI (xx + (qrl σ i)))), (0, .ref (a 0)), (1, .int (nI (nE σ)))]) hx hb dX0_quarrelsOfAll_22 hl (k := 3) rfl (zinc1 _) (by decide) rfl (fun ls hl => ?_)
        refine lv_goto (tgt := 9) hx hb dX0_quarrelsOfAll_25 (by decide) ?_
        exact ih (i + 1) (xx + (qrl σ i)) (by rw [sm, ← hxx]; try (simp [h11] <;> omega)) (by omega) (by omega) _ (lv_sub hl [2, 3, 1, 0] rfl)
  exact loop9 (nE σ + 1) 0 0 (rfl) (by omega) (by omega) _ (lv_sub hl [3, 2, 1, 0] rfl)
set_option maxHeartbeats 4000000 in
set_option maxRecDepth 100000 in
theorem kX0_cleanEdges (l : Launch) (G : zG) (a : Nat → Nat) (σ : Nat → Nat) {N : Nat}  (hO : Ok N σ) : Met l yX0_cleanEdges wsX0_cleanEdges (zRm 4 93) (zPc G [.ref (a 0)] (va_P G.1 vwCl (wA G a σ))) (zS (.int (nI (cln σ)))) 0 0 (fun _ => False) := by
  refine zmkI (cc := cX0_cleanEdges) (maxL := 4) (by decide) rfl (Nat.le_of_ble_eq_true rfl) ?_
  intro pr en st mi ar bl me cd ls Q hx hb hml hown hts hG hP hl hret
  have hown : st.vm.findClass RX0 = some mi.cls := hown
  have hl : lv_has ls 4 [(0, .ref (a 0))] := hl
  have hP : va_P G.1 vwCl (wA G a σ) st.heap := hP
  have hc := hO.c
  have hs := hO.lS
  have hr := hO.lR
  have hne := hO.lE
  refine lv_aload_n hx hb dX0_cleanEdges_0 rfl (lv_at hl 0 rfl) ?_
  refine zrdV (As := []) ⟨hx, hb, hml, hown, hts⟩ (kX0_edgeCount l G a σ (hO)) (cwV 0 hts gX0_cleanEdges_X0_edgeCount rfl rfl rfl (by decide +kernel) ⟨Nat.le_of_ble_eq_true rfl, Nat.le_of_ble_eq_true rfl⟩) hG (va_recv (q0 := 0) (ci := 0) hG.1 hP rfl rfl) (hP) rfl rfl hl.1 dX0_cleanEdges_1 (Nat.le_of_ble_eq_true rfl) ⟨Nat.le_of_ble_eq_true rfl, Nat.le_of_ble_eq_true rfl⟩ ?_
  refine lv_istore_n (lv' := [(1, .int (nI (nE σ))), (0, .ref (a 0))]) hx hb dX0_cleanEdges_4 rfl hl (by decide) rfl (fun ls hl => ?_)
  refine lv_iconst (v := nI 0) hx hb dX0_cleanEdges_5 (by decide) ?_
  refine lv_istore_n (lv' := [(2, .int (nI 0)), (1, .int (nI (nE σ))), (0, .ref (a 0))]) hx hb dX0_cleanEdges_6 rfl hl (by decide) rfl (fun ls hl => ?_)
  refine lv_iconst (v := nI 0) hx hb dX0_cleanEdges_7 (by decide) ?_
  refine lv_istore_n (lv' := [(3, .int (nI 0)), (2, .int (nI 0)), (1, .int (nI (nE σ))), (0, .ref (a 0))]) hx hb dX0_cleanEdges_8 rfl hl (by decide) rfl (fun ls hl => ?_)
  have loop9 : ∀ (n : Nat) (i : Nat) (xx : Nat) (hxx : xx = sm (fun e => if qrl σ e = 0 then 1 else 0) i) (hi : i ≤ nE σ) (hn : nE σ < i + n) (ls : Array Slot) (hl : lv_has ls 4 [(0, .ref (a 0)), (1, .int (nI (nE σ))), (2, .int (nI xx)), (3, .int (nI i))]), W pr l en (zRm 4 93) st mi ar bl me cd st.heap [] 0 0 Q (F0 mi 9 ls []) := by
    intro n
    induction n with
    | zero => intro i xx hxx hi hn ls hl; exfalso; omega
    | succ n ih =>
      intro i xx hxx hi hn ls hl
      refine lv_iload_n hx hb dX0_cleanEdges_9 rfl (lv_at hl 3 rfl) ?_
      refine lv_iload_n hx hb dX0_cleanEdges_10 rfl (lv_at hl 1 rfl) ?_
      refine lv_icmp_ge (tgt := 31) hx hb dX0_cleanEdges_11 (by decide) (fun h11 => ?_) (fun h11 => ?_)
      · skip
        have h11 : (nE σ) ≤ i := (nI_leI (by omega) (by omega)).mp h11
        refine lv_iload_n hx hb dX0_cleanEdges_31 rfl (lv_at hl 2 rfl) ?_
        exact hret _ _ _ dX0_cleanEdges_32 (congrArg nI (by obtain rfl : i = nE σ := (by omega); exact hxx))
      · skip
        have h11 : ¬ ((nE σ) ≤ i) := fun q => h11 ((nI_leI (by omega) (by omega)).mpr q)
        refine lv_aload_n hx hb dX0_cleanEdges_14 rfl (lv_at hl 0 rfl) ?_
        refine lv_iload_n hx hb dX0_cleanEdges_15 rfl (lv_at hl 3 rfl) ?_
        refine zrdV (As := [.int (nI i)]) ⟨hx, hb, hml, hown, hts⟩ (kX0_quarrelsOf l G a σ i (hO) (by omega)) (cwV 1 hts gX0_cleanEdges_X0_quarrelsOf rfl rfl rfl (by decide +kernel) ⟨Nat.le_of_ble_eq_true rfl, Nat.le_of_ble_eq_true rfl⟩) hG (va_recv (q0 := 0) (ci := 0) hG.1 hP rfl rfl) (hP) rfl rfl hl.1 dX0_cleanEdges_16 (Nat.le_of_ble_eq_true rfl) ⟨Nat.le_of_ble_eq_true rfl, Nat.le_of_ble_eq_true rfl⟩ ?_
        have hf16_0 := qrl_le σ (i)
        refine lv_if_ne (tgt := 25) hx hb dX0_cleanEdges_19 (by decide) (fun h19 => ?_) (fun h19 => ?_)
        · skip
          have h19 : ¬ ((qrl σ i) = 0) := fun q => h19 ((z_eq0 (by omega)).mpr q)
          have h19 : 0 < (qrl σ i) := Nat.pos_of_ne_zero h19
          refine lv_iinc (v := nI (i + 1)) (lv' := [(3, .int (nI (i + 1))), (0, .ref (a 0)), (1, .int (nI (nE σ))), (2, .int (nI xx))]) hx hb dX0_cleanEdges_25 hl (k := 3) rfl (zinc1 _) (by decide) rfl (fun ls hl => ?_)
          refine lv_goto (tgt := 9) hx hb dX0_cleanEdges_28 (by decide) ?_
          exact ih (i + 1) xx (by rw [sm, ← hxx]; try (simp [h11, h19] <;> omega)) (by omega) (by omega) _ (lv_sub hl [1, 2, 3, 0] rfl)
        · skip
          have h19 : (qrl σ i) = 0 := (z_eq0 (by omega)).mp h19
          refine lv_iinc (v := nI (xx + 1)) (lv' := [(2, .int (nI (xx + 1))), (0, .ref (a 0)), (1, .int (nI (nE σ))), (3, .int (nI i))]) hx hb dX0_cleanEdges_22 hl (k := 2) rfl (zinc1 _) (by decide) rfl (fun ls hl => ?_)
          refine lv_iinc (v := nI (i + 1)) (lv' := [(3, .int (nI (i + 1))), (2, .int (nI (xx + 1))), (0, .ref (a 0)), (1, .int (nI (nE σ)))]) hx hb dX0_cleanEdges_25 hl (k := 3) rfl (zinc1 _) (by decide) rfl (fun ls hl => ?_)
          refine lv_goto (tgt := 9) hx hb dX0_cleanEdges_28 (by decide) ?_
          exact ih (i + 1) (xx + 1) (by rw [sm, ← hxx]; try (simp [h11, h19] <;> omega)) (by omega) (by omega) _ (lv_sub hl [2, 3, 1, 0] rfl)
  exact loop9 (nE σ + 1) 0 0 (rfl) (by omega) (by omega) _ (lv_sub hl [3, 2, 1, 0] rfl)
set_option maxHeartbeats 4000000 in
set_option maxRecDepth 100000 in
theorem kX0_agreedEdges (l : Launch) (G : zG) (a : Nat → Nat) (σ : Nat → Nat) {N : Nat}  (hO : Ok N σ) : Met l yX0_agreedEdges wsX0_agreedEdges (zRm 2 43) (zPc G [.ref (a 0)] (va_P G.1 vwCl (wA G a σ))) (zS (.int (nI (agA σ)))) 0 0 (fun _ => False) := by
  refine zmkI (cc := cX0_agreedEdges) (maxL := 4) (by decide) rfl (Nat.le_of_ble_eq_true rfl) ?_
  intro pr en st mi ar bl me cd ls Q hx hb hml hown hts hG hP hl hret
  have hown : st.vm.findClass RX0 = some mi.cls := hown
  have hl : lv_has ls 4 [(0, .ref (a 0))] := hl
  have hP : va_P G.1 vwCl (wA G a σ) st.heap := hP
  have hc := hO.c
  have hs := hO.lS
  have hr := hO.lR
  have hne := hO.lE
  refine lv_aload_n hx hb dX0_agreedEdges_0 rfl (lv_at hl 0 rfl) ?_
  refine zrdV (As := []) ⟨hx, hb, hml, hown, hts⟩ (kX0_edgeCount l G a σ (hO)) (cwV 0 hts gX0_agreedEdges_X0_edgeCount rfl rfl rfl (by decide +kernel) ⟨Nat.le_of_ble_eq_true rfl, Nat.le_of_ble_eq_true rfl⟩) hG (va_recv (q0 := 0) (ci := 0) hG.1 hP rfl rfl) (hP) rfl rfl hl.1 dX0_agreedEdges_1 (Nat.le_of_ble_eq_true rfl) ⟨Nat.le_of_ble_eq_true rfl, Nat.le_of_ble_eq_true rfl⟩ ?_
  refine lv_istore_n (lv' := [(1, .int (nI (nE σ))), (0, .ref (a 0))]) hx hb dX0_agreedEdges_4 rfl hl (by decide) rfl (fun ls hl => ?_)
  refine lv_iconst (v := nI 0) hx hb dX0_agreedEdges_5 (by decide) ?_
  refine lv_istore_n (lv' := [(2, .int (nI 0)), (1, .int (nI (nE σ))), (0, .ref (a 0))]) hx hb dX0_agreedEdges_6 rfl hl (by decide) rfl (fun ls hl => ?_)
  refine lv_iconst (v := nI 0) hx hb dX0_agreedEdges_7 (by decide) ?_
  refine lv_istore_n (lv' := [(3, .int (nI 0)), (2, .int (nI 0)), (1, .int (nI (nE σ))), (0, .ref (a 0))]) hx hb dX0_agreedEdges_8 rfl hl (by decide) rfl (fun ls hl => ?_)
  have loop9 : ∀ (n : Nat) (i : Nat) (xx : Nat) (hxx : xx = sm (fun e => if agn σ e = 1 then 1 else 0) i) (hi : i ≤ nE σ) (hn : nE σ < i + n) (ls : Array Slot) (hl : lv_has ls 4 [(0, .ref (a 0)), (1, .int (nI (nE σ))), (2, .int (nI xx)), (3, .int (nI i))]), W pr l en (zRm 2 43) st mi ar bl me cd st.heap [] 0 0 Q (F0 mi 9 ls []) := by
    intro n
    induction n with
    | zero => intro i xx hxx hi hn ls hl; exfalso; omega
    | succ n ih =>
      intro i xx hxx hi hn ls hl
      refine lv_iload_n hx hb dX0_agreedEdges_9 rfl (lv_at hl 3 rfl) ?_
      refine lv_iload_n hx hb dX0_agreedEdges_10 rfl (lv_at hl 1 rfl) ?_
      refine lv_icmp_ge (tgt := 31) hx hb dX0_agreedEdges_11 (by decide) (fun h11 => ?_) (fun h11 => ?_)
      · skip
        have h11 : (nE σ) ≤ i := (nI_leI (by omega) (by omega)).mp h11
        refine lv_iload_n hx hb dX0_agreedEdges_31 rfl (lv_at hl 2 rfl) ?_
        exact hret _ _ _ dX0_agreedEdges_32 (congrArg nI (by obtain rfl : i = nE σ := (by omega); exact hxx))
      · skip
        have h11 : ¬ ((nE σ) ≤ i) := fun q => h11 ((nI_leI (by omega) (by omega)).mpr q)
        refine lv_aload_n hx hb dX0_agreedEdges_14 rfl (lv_at hl 0 rfl) ?_
        refine lv_iload_n hx hb dX0_agreedEdges_15 rfl (lv_at hl 3 rfl) ?_
        refine zrdV (As := [.int (nI i)]) ⟨hx, hb, hml, hown, hts⟩ (kX0_isAgreed l G a σ i (hO) (by omega)) (cwV 1 hts gX0_agreedEdges_X0_isAgreed rfl rfl rfl (by decide +kernel) ⟨Nat.le_of_ble_eq_true rfl, Nat.le_of_ble_eq_true rfl⟩) hG (va_recv (q0 := 0) (ci := 0) hG.1 hP rfl rfl) (hP) rfl rfl hl.1 dX0_agreedEdges_16 (Nat.le_of_ble_eq_true rfl) ⟨Nat.le_of_ble_eq_true rfl, Nat.le_of_ble_eq_true rfl⟩ ?_
        refine lv_if_eq (tgt := 25) hx hb dX0_agreedEdges_19 (by decide) (fun h19 => ?_) (fun h19 => ?_)
        · skip
          have h19 : ¬ (agn σ i = 1) := (z_b0).mp h19
          refine lv_iinc (v := nI (i + 1)) (lv' := [(3, .int (nI (i + 1))), (0, .ref (a 0)), (1, .int (nI (nE σ))), (2, .int (nI xx))]) hx hb dX0_agreedEdges_25 hl (k := 3) rfl (zinc1 _) (by decide) rfl (fun ls hl => ?_)
          refine lv_goto (tgt := 9) hx hb dX0_agreedEdges_28 (by decide) ?_
          exact ih (i + 1) xx (by rw [sm, ← hxx]; try (simp [h11, h19] <;> omega)) (by omega) (by omega) _ (lv_sub hl [1, 2, 3, 0] rfl)
        · skip
          have h19 : ¬ (¬ (agn σ i = 1)) := fun q => h19 ((z_b0).mpr q)
          have h19 : agn σ i = 1 := Decidable.of_not_not h19
          refine lv_iinc (v := nI (xx + 1)) (lv' := [(2, .int (nI (xx + 1))), (0, .ref (a 0)), (1, .int (nI (nE σ))), (3, .int (nI i))]) hx hb dX0_agreedEdges_22 hl (k := 2) rfl (zinc1 _) (by decide) rfl (fun ls hl => ?_)
          refine lv_iinc (v := nI (i + 1)) (lv' := [(3, .int (nI (i + 1))), (2, .int (nI (xx + 1))), (0, .ref (a 0)), (1, .int (nI (nE σ)))]) hx hb dX0_agreedEdges_25 hl (k := 3) rfl (zinc1 _) (by decide) rfl (fun ls hl => ?_)
          refine lv_goto (tgt := 9) hx hb dX0_agreedEdges_28 (by decide) ?_
          exact ih (i + 1) (xx + 1) (by rw [sm, ← hxx]; try (simp [h11, h19] <;> omega)) (by omega) (by omega) _ (lv_sub hl [2, 3, 1, 0] rfl)
  exact loop9 (nE σ + 1) 0 0 (rfl) (by omega) (by omega) _ (lv_sub hl [3, 2, 1, 0] rfl)
set_option maxHeartbeats 4000000 in
set_option maxRecDepth 100000 in
theorem kX0_publishedSheets (l : Launch) (G : zG) (a : Nat → Nat) (σ : Nat → Nat) {N : Nat}  (hO : Ok N σ) : Met l yX0_publishedSheets wsX0_publishedSheets (zRm 3 64) (zPc G [.ref (a 0)] (va_P G.1 vwCl (wA G a σ))) (zS (.int (nI (pbS σ)))) 0 0 (fun _ => False) := by
  refine zmkI (cc := cX0_publishedSheets) (maxL := 4) (by decide) rfl (Nat.le_of_ble_eq_true rfl) ?_
  intro pr en st mi ar bl me cd ls Q hx hb hml hown hts hG hP hl hret
  have hown : st.vm.findClass RX0 = some mi.cls := hown
  have hl : lv_has ls 4 [(0, .ref (a 0))] := hl
  have hP : va_P G.1 vwCl (wA G a σ) st.heap := hP
  have hc := hO.c
  have hs := hO.lS
  have hr := hO.lR
  have hne := hO.lE
  refine lv_aload_n hx hb dX0_publishedSheets_0 rfl (lv_at hl 0 rfl) ?_
  refine zrdV (As := []) ⟨hx, hb, hml, hown, hts⟩ (kX0_sheetCount l G a σ ) (cwV 0 hts gX0_publishedSheets_X0_sheetCount rfl rfl rfl (by decide +kernel) ⟨Nat.le_of_ble_eq_true rfl, Nat.le_of_ble_eq_true rfl⟩) hG (va_recv (q0 := 0) (ci := 0) hG.1 hP rfl rfl) (hP) rfl rfl hl.1 dX0_publishedSheets_1 (Nat.le_of_ble_eq_true rfl) ⟨Nat.le_of_ble_eq_true rfl, Nat.le_of_ble_eq_true rfl⟩ ?_
  refine lv_istore_n (lv' := [(1, .int (nI (nS σ))), (0, .ref (a 0))]) hx hb dX0_publishedSheets_4 rfl hl (by decide) rfl (fun ls hl => ?_)
  refine lv_iconst (v := nI 0) hx hb dX0_publishedSheets_5 (by decide) ?_
  refine lv_istore_n (lv' := [(2, .int (nI 0)), (1, .int (nI (nS σ))), (0, .ref (a 0))]) hx hb dX0_publishedSheets_6 rfl hl (by decide) rfl (fun ls hl => ?_)
  refine lv_iconst (v := nI 0) hx hb dX0_publishedSheets_7 (by decide) ?_
  refine lv_istore_n (lv' := [(3, .int (nI 0)), (2, .int (nI 0)), (1, .int (nI (nS σ))), (0, .ref (a 0))]) hx hb dX0_publishedSheets_8 rfl hl (by decide) rfl (fun ls hl => ?_)
  have loop9 : ∀ (n : Nat) (i : Nat) (xx : Nat) (hxx : xx = sm (fun k => if pbn σ k = 0 then 0 else 1) i) (hi : i ≤ nS σ) (hn : nS σ < i + n) (ls : Array Slot) (hl : lv_has ls 4 [(0, .ref (a 0)), (1, .int (nI (nS σ))), (2, .int (nI xx)), (3, .int (nI i))]), W pr l en (zRm 3 64) st mi ar bl me cd st.heap [] 0 0 Q (F0 mi 9 ls []) := by
    intro n
    induction n with
    | zero => intro i xx hxx hi hn ls hl; exfalso; omega
    | succ n ih =>
      intro i xx hxx hi hn ls hl
      refine lv_iload_n hx hb dX0_publishedSheets_9 rfl (lv_at hl 3 rfl) ?_
      refine lv_iload_n hx hb dX0_publishedSheets_10 rfl (lv_at hl 1 rfl) ?_
      refine lv_icmp_ge (tgt := 31) hx hb dX0_publishedSheets_11 (by decide) (fun h11 => ?_) (fun h11 => ?_)
      · skip
        have h11 : (nS σ) ≤ i := (nI_leI (by omega) (by omega)).mp h11
        refine lv_iload_n hx hb dX0_publishedSheets_31 rfl (lv_at hl 2 rfl) ?_
        exact hret _ _ _ dX0_publishedSheets_32 (congrArg nI (by obtain rfl : i = nS σ := (by omega); exact hxx))
      · skip
        have h11 : ¬ ((nS σ) ≤ i) := fun q => h11 ((nI_leI (by omega) (by omega)).mpr q)
        refine lv_aload_n hx hb dX0_publishedSheets_14 rfl (lv_at hl 0 rfl) ?_
        refine lv_iload_n hx hb dX0_publishedSheets_15 rfl (lv_at hl 3 rfl) ?_
        refine zrdV (As := [.int (nI i)]) ⟨hx, hb, hml, hown, hts⟩ (kX0_isPublished l G a σ i (hO) (by omega)) (cwV 1 hts gX0_publishedSheets_X0_isPublished rfl rfl rfl (by decide +kernel) ⟨Nat.le_of_ble_eq_true rfl, Nat.le_of_ble_eq_true rfl⟩) hG (va_recv (q0 := 0) (ci := 0) hG.1 hP rfl rfl) (hP) rfl rfl hl.1 dX0_publishedSheets_16 (Nat.le_of_ble_eq_true rfl) ⟨Nat.le_of_ble_eq_true rfl, Nat.le_of_ble_eq_true rfl⟩ ?_
        refine lv_if_eq (tgt := 25) hx hb dX0_publishedSheets_19 (by decide) (fun h19 => ?_) (fun h19 => ?_)
        · skip
          have h19 : ¬ (¬ (pbn σ i = 0)) := (z_b0).mp h19
          refine lv_iinc (v := nI (i + 1)) (lv' := [(3, .int (nI (i + 1))), (0, .ref (a 0)), (1, .int (nI (nS σ))), (2, .int (nI xx))]) hx hb dX0_publishedSheets_25 hl (k := 3) rfl (zinc1 _) (by decide) rfl (fun ls hl => ?_)
          refine lv_goto (tgt := 9) hx hb dX0_publishedSheets_28 (by decide) ?_
          exact ih (i + 1) xx (by rw [sm, ← hxx]; try (simp [h11, h19] <;> omega)) (by omega) (by omega) _ (lv_sub hl [1, 2, 3, 0] rfl)
        · skip
          have h19 : ¬ (¬ (¬ (pbn σ i = 0))) := fun q => h19 ((z_b0).mpr q)
          have h19 : ¬ (pbn σ i = 0) := Decidable.of_not_not h19
          refine lv_iinc (v := nI (xx + 1)) (lv' := [(2, .int (nI (xx + 1))), (0, .ref (a 0)), (1, .int (nI (nS σ))), (3, .int (nI i))]) hx hb dX0_publishedSheets_22 hl (k := 2) rfl (zinc1 _) (by decide) rfl (fun ls hl => ?_)
          refine lv_iinc (v := nI (i + 1)) (lv' := [(3, .int (nI (i + 1))), (2, .int (nI (xx + 1))), (0, .ref (a 0)), (1, .int (nI (nS σ)))]) hx hb dX0_publishedSheets_25 hl (k := 3) rfl (zinc1 _) (by decide) rfl (fun ls hl => ?_)
          refine lv_goto (tgt := 9) hx hb dX0_publishedSheets_28 (by decide) ?_
          exact ih (i + 1) (xx + 1) (by rw [sm, ← hxx]; try (simp [h11, h19] <;> omega)) (by omega) (by omega) _ (lv_sub hl [2, 3, 1, 0] rfl)
  exact loop9 (nS σ + 1) 0 0 (rfl) (by omega) (by omega) _ (lv_sub hl [3, 2, 1, 0] rfl)
set_option maxHeartbeats 4000000 in
set_option maxRecDepth 100000 in
theorem kX0_sheetsUpToDate (l : Launch) (G : zG) (a : Nat → Nat) (σ : Nat → Nat) {N : Nat}  (hO : Ok N σ) : Met l yX0_sheetsUpToDate wsX0_sheetsUpToDate (zRm 4 85) (zPc G [.ref (a 0)] (va_P G.1 vwCl (wA G a σ))) (zS (.int (nI (upS σ)))) 0 0 (fun _ => False) := by
  refine zmkI (cc := cX0_sheetsUpToDate) (maxL := 4) (by decide) rfl (Nat.le_of_ble_eq_true rfl) ?_
  intro pr en st mi ar bl me cd ls Q hx hb hml hown hts hG hP hl hret
  have hown : st.vm.findClass RX0 = some mi.cls := hown
  have hl : lv_has ls 4 [(0, .ref (a 0))] := hl
  have hP : va_P G.1 vwCl (wA G a σ) st.heap := hP
  have hc := hO.c
  have hs := hO.lS
  have hr := hO.lR
  have hne := hO.lE
  refine lv_aload_n hx hb dX0_sheetsUpToDate_0 rfl (lv_at hl 0 rfl) ?_
  refine zrdV (As := []) ⟨hx, hb, hml, hown, hts⟩ (kX0_sheetCount l G a σ ) (cwV 0 hts gX0_sheetsUpToDate_X0_sheetCount rfl rfl rfl (by decide +kernel) ⟨Nat.le_of_ble_eq_true rfl, Nat.le_of_ble_eq_true rfl⟩) hG (va_recv (q0 := 0) (ci := 0) hG.1 hP rfl rfl) (hP) rfl rfl hl.1 dX0_sheetsUpToDate_1 (Nat.le_of_ble_eq_true rfl) ⟨Nat.le_of_ble_eq_true rfl, Nat.le_of_ble_eq_true rfl⟩ ?_
  refine lv_istore_n (lv' := [(1, .int (nI (nS σ))), (0, .ref (a 0))]) hx hb dX0_sheetsUpToDate_4 rfl hl (by decide) rfl (fun ls hl => ?_)
  refine lv_iconst (v := nI 0) hx hb dX0_sheetsUpToDate_5 (by decide) ?_
  refine lv_istore_n (lv' := [(2, .int (nI 0)), (1, .int (nI (nS σ))), (0, .ref (a 0))]) hx hb dX0_sheetsUpToDate_6 rfl hl (by decide) rfl (fun ls hl => ?_)
  refine lv_iconst (v := nI 0) hx hb dX0_sheetsUpToDate_7 (by decide) ?_
  refine lv_istore_n (lv' := [(3, .int (nI 0)), (2, .int (nI 0)), (1, .int (nI (nS σ))), (0, .ref (a 0))]) hx hb dX0_sheetsUpToDate_8 rfl hl (by decide) rfl (fun ls hl => ?_)
  have loop9 : ∀ (n : Nat) (i : Nat) (xx : Nat) (hxx : xx = sm (fun k => if pbn σ k = rvn σ k + 1 then 1 else 0) i) (hi : i ≤ nS σ) (hn : nS σ < i + n) (ls : Array Slot) (hl : lv_has ls 4 [(0, .ref (a 0)), (1, .int (nI (nS σ))), (2, .int (nI xx)), (3, .int (nI i))]), W pr l en (zRm 4 85) st mi ar bl me cd st.heap [] 0 0 Q (F0 mi 9 ls []) := by
    intro n
    induction n with
    | zero => intro i xx hxx hi hn ls hl; exfalso; omega
    | succ n ih =>
      intro i xx hxx hi hn ls hl
      refine lv_iload_n hx hb dX0_sheetsUpToDate_9 rfl (lv_at hl 3 rfl) ?_
      refine lv_iload_n hx hb dX0_sheetsUpToDate_10 rfl (lv_at hl 1 rfl) ?_
      refine lv_icmp_ge (tgt := 31) hx hb dX0_sheetsUpToDate_11 (by decide) (fun h11 => ?_) (fun h11 => ?_)
      · skip
        have h11 : (nS σ) ≤ i := (nI_leI (by omega) (by omega)).mp h11
        refine lv_iload_n hx hb dX0_sheetsUpToDate_31 rfl (lv_at hl 2 rfl) ?_
        exact hret _ _ _ dX0_sheetsUpToDate_32 (congrArg nI (by obtain rfl : i = nS σ := (by omega); exact hxx))
      · skip
        have h11 : ¬ ((nS σ) ≤ i) := fun q => h11 ((nI_leI (by omega) (by omega)).mpr q)
        refine lv_aload_n hx hb dX0_sheetsUpToDate_14 rfl (lv_at hl 0 rfl) ?_
        refine lv_iload_n hx hb dX0_sheetsUpToDate_15 rfl (lv_at hl 3 rfl) ?_
        refine zrdV (As := [.int (nI i)]) ⟨hx, hb, hml, hown, hts⟩ (kX0_isUpToDate l G a σ i (hO) (by omega)) (cwV 1 hts gX0_sheetsUpToDate_X0_isUpToDate rfl rfl rfl (by decide +kernel) ⟨Nat.le_of_ble_eq_true rfl, Nat.le_of_ble_eq_true rfl⟩) hG (va_recv (q0 := 0) (ci := 0) hG.1 hP rfl rfl) (hP) rfl rfl hl.1 dX0_sheetsUpToDate_16 (Nat.le_of_ble_eq_true rfl) ⟨Nat.le_of_ble_eq_true rfl, Nat.le_of_ble_eq_true rfl⟩ ?_
        refine lv_if_eq (tgt := 25) hx hb dX0_sheetsUpToDate_19 (by decide) (fun h19 => ?_) (fun h19 => ?_)
        · skip
          have h19 : ¬ (pbn σ i = rvn σ i + 1) := (z_b0).mp h19
          refine lv_iinc (v := nI (i + 1)) (lv' := [(3, .int (nI (i + 1))), (0, .ref (a 0)), (1, .int (nI (nS σ))), (2, .int (nI xx))]) hx hb dX0_sheetsUpToDate_25 hl (k := 3) rfl (zinc1 _) (by decide) rfl (fun ls hl => ?_)
          refine lv_goto (tgt := 9) hx hb dX0_sheetsUpToDate_28 (by decide) ?_
          exact ih (i + 1) xx (by rw [sm, ← hxx]; try (simp [h11, h19] <;> omega)) (by omega) (by omega) _ (lv_sub hl [1, 2, 3, 0] rfl)
        · skip
          have h19 : ¬ (¬ (pbn σ i = rvn σ i + 1)) := fun q => h19 ((z_b0).mpr q)
          have h19 : pbn σ i = rvn σ i + 1 := Decidable.of_not_not h19
          refine lv_iinc (v := nI (xx + 1)) (lv' := [(2, .int (nI (xx + 1))), (0, .ref (a 0)), (1, .int (nI (nS σ))), (3, .int (nI i))]) hx hb dX0_sheetsUpToDate_22 hl (k := 2) rfl (zinc1 _) (by decide) rfl (fun ls hl => ?_)
          refine lv_iinc (v := nI (i + 1)) (lv' := [(3, .int (nI (i + 1))), (2, .int (nI (xx + 1))), (0, .ref (a 0)), (1, .int (nI (nS σ)))]) hx hb dX0_sheetsUpToDate_25 hl (k := 3) rfl (zinc1 _) (by decide) rfl (fun ls hl => ?_)
          refine lv_goto (tgt := 9) hx hb dX0_sheetsUpToDate_28 (by decide) ?_
          exact ih (i + 1) (xx + 1) (by rw [sm, ← hxx]; try (simp [h11, h19] <;> omega)) (by omega) (by omega) _ (lv_sub hl [2, 3, 1, 0] rfl)
  exact loop9 (nS σ + 1) 0 0 (rfl) (by omega) (by omega) _ (lv_sub hl [3, 2, 1, 0] rfl)
set_option maxHeartbeats 4000000 in
set_option maxRecDepth 100000 in
theorem kX0_signsOnBothSides (l : Launch) (G : zG) (a : Nat → Nat) (σ : Nat → Nat) {N : Nat} (e : Nat) (hO : Ok N σ) (he : e < nE σ) : Met l yX0_signsOnBothSides wsX0_signsOnBothSides (zRm 2 45) (zPc G [.ref (a 0), .int (nI e)] (va_P G.1 vwCl (wA G a σ))) (zS (.int (nI (crs σ e)))) 0 0 (fun _ => False) := by
  refine zmkI (cc := cX0_signsOnBothSides) (maxL := 6) (by decide) rfl (Nat.le_of_ble_eq_true rfl) ?_
  intro pr en st mi ar bl me cd ls Q hx hb hml hown hts hG hP hl hret
  have hown : st.vm.findClass RX0 = some mi.cls := hown
  have hl : lv_has ls 6 [(0, .ref (a 0)), (1, .int (nI e))] := hl
  have hP : va_P G.1 vwCl (wA G a σ) st.heap := hP
  have hc := hO.c
  have hs := hO.lS
  have hr := hO.lR
  have hne := hO.lE
  have hd1 := fD_lt σ e
  have hd2 := sD_lt σ e
  have hfs := hO.lF he
  refine lv_iconst (v := nI 0) hx hb dX0_signsOnBothSides_0 (by decide) ?_
  refine lv_istore_n (lv' := [(2, .int (nI 0)), (0, .ref (a 0)), (1, .int (nI e))]) hx hb dX0_signsOnBothSides_1 rfl hl (by decide) rfl (fun ls hl => ?_)
  refine lv_iconst (v := nI 0) hx hb dX0_signsOnBothSides_2 (by decide) ?_
  refine lv_istore_n (lv' := [(3, .int (nI 0)), (2, .int (nI 0)), (0, .ref (a 0)), (1, .int (nI e))]) hx hb dX0_signsOnBothSides_3 rfl hl (by decide) rfl (fun ls hl => ?_)
  have loop4 : ∀ (n : Nat) (i : Nat) (xx : Nat) (hxx : xx = sm (fun p => if sgn σ (fS σ e) (fD σ e) p = 10 ∨ sgn σ (sS σ e) (sD σ e) p = 10 then 0 else 1) i) (hi : i ≤ 10) (hn : 10 < i + n) (ls : Array Slot) (hl : lv_has ls 6 [(0, .ref (a 0)), (1, .int (nI e)), (2, .int (nI xx)), (3, .int (nI i))]), W pr l en (zRm 2 45) st mi ar bl me cd st.heap [] 0 0 Q (F0 mi 4 ls []) := by
    intro n
    induction n with
    | zero => intro i xx hxx hi hn ls hl; exfalso; omega
    | succ n ih =>
      intro i xx hxx hi hn ls hl
      refine lv_iload_n hx hb dX0_signsOnBothSides_4 rfl (lv_at hl 3 rfl) ?_
      refine lv_bipush (v := nI 10) hx hb dX0_signsOnBothSides_5 (by decide) ?_
      refine lv_icmp_ge (tgt := 67) hx hb dX0_signsOnBothSides_7 (by decide) (fun h7 => ?_) (fun h7 => ?_)
      · skip
        have h7 : 10 ≤ i := (nI_leI (by omega) (by omega)).mp h7
        refine lv_iload_n hx hb dX0_signsOnBothSides_67 rfl (lv_at hl 2 rfl) ?_
        exact hret _ _ _ dX0_signsOnBothSides_68 (congrArg nI (by obtain rfl : i = 10 := (by omega); exact hxx))
      · skip
        have h7 : ¬ (10 ≤ i) := fun q => h7 ((nI_leI (by omega) (by omega)).mpr q)
        refine lv_aload_n hx hb dX0_signsOnBothSides_10 rfl (lv_at hl 0 rfl) ?_
        refine lv_aload_n hx hb dX0_signsOnBothSides_11 rfl (lv_at hl 0 rfl) ?_
        refine lv_iload_n hx hb dX0_signsOnBothSides_12 rfl (lv_at hl 1 rfl) ?_
        refine zrdV (As := [.int (nI e)]) ⟨hx, hb, hml, hown, hts⟩ (kX0_firstSheet l G a σ e (hO) (by omega)) (cwV 1 hts gX0_signsOnBothSides_X0_firstSheet rfl rfl rfl (by decide +kernel) ⟨Nat.le_of_ble_eq_true rfl, Nat.le_of_ble_eq_true rfl⟩) hG (va_recv (q0 := 0) (ci := 0) hG.1 hP rfl rfl) (hP) rfl rfl hl.1 dX0_signsOnBothSides_13 (Nat.le_of_ble_eq_true rfl) ⟨Nat.le_of_ble_eq_true rfl, Nat.le_of_ble_eq_true rfl⟩ ?_
        have hf13_0 := hO.lF (show e < nE σ by omega)
        refine lv_aload_n hx hb dX0_signsOnBothSides_16 rfl (lv_at hl 0 rfl) ?_
        refine lv_iload_n hx hb dX0_signsOnBothSides_17 rfl (lv_at hl 1 rfl) ?_
        refine zrdV (As := [.int (nI e)]) ⟨hx, hb, hml, hown, hts⟩ (kX0_firstSide l G a σ e (hO) (by omega)) (cwV 1 hts gX0_signsOnBothSides_X0_firstSide rfl rfl rfl (by decide +kernel) ⟨Nat.le_of_ble_eq_true rfl, Nat.le_of_ble_eq_true rfl⟩) hG (va_recv (q0 := 0) (ci := 0) hG.1 hP rfl rfl) (hP) rfl rfl hl.1 dX0_signsOnBothSides_18 (Nat.le_of_ble_eq_true rfl) ⟨Nat.le_of_ble_eq_true rfl, Nat.le_of_ble_eq_true rfl⟩ ?_
        refine lv_iload_n hx hb dX0_signsOnBothSides_21 rfl (lv_at hl 3 rfl) ?_
        refine zrdV (As := [.int (nI (fS σ e)), .int (nI (fD σ e)), .int (nI i)]) ⟨hx, hb, hml, hown, hts⟩ (kX0_signAt l G a σ (fS σ e) (fD σ e) i (by omega) (by omega) (by omega)) (cwV 3 hts gX0_signsOnBothSides_X0_signAt rfl rfl rfl (by decide +kernel) ⟨Nat.le_of_ble_eq_true rfl, Nat.le_of_ble_eq_true rfl⟩) hG (va_recv (q0 := 0) (ci := 0) hG.1 hP rfl rfl) (hP) rfl rfl hl.1 dX0_signsOnBothSides_22 (Nat.le_of_ble_eq_true rfl) ⟨Nat.le_of_ble_eq_true rfl, Nat.le_of_ble_eq_true rfl⟩ ?_
        refine lv_istore (lv' := [(4, .int (nI (sgn σ (fS σ e) (fD σ e) i))), (0, .ref (a 0)), (1, .int (nI e)), (2, .int (nI xx)), (3, .int (nI i))]) hx hb dX0_signsOnBothSides_25 hl (by decide) rfl (fun ls hl => ?_)
        refine lv_aload_n hx hb dX0_signsOnBothSides_27 rfl (lv_at hl 1 rfl) ?_
        refine lv_aload_n hx hb dX0_signsOnBothSides_28 rfl (lv_at hl 1 rfl) ?_
        refine lv_iload_n hx hb dX0_signsOnBothSides_29 rfl (lv_at hl 2 rfl) ?_
        refine zrdV (As := [.int (nI e)]) ⟨hx, hb, hml, hown, hts⟩ (kX0_secondSheet l G a σ e (hO) (by omega)) (cwV 1 hts gX0_signsOnBothSides_X0_secondSheet rfl rfl rfl (by decide +kernel) ⟨Nat.le_of_ble_eq_true rfl, Nat.le_of_ble_eq_true rfl⟩) hG (va_recv (q0 := 0) (ci := 0) hG.1 hP rfl rfl) (hP) rfl rfl hl.1 dX0_signsOnBothSides_30 (Nat.le_of_ble_eq_true rfl) ⟨Nat.le_of_ble_eq_true rfl, Nat.le_of_ble_eq_true rfl⟩ ?_
        have hf30_0 := hO.lF (show e < nE σ by omega)
        refine lv_aload_n hx hb dX0_signsOnBothSides_33 rfl (lv_at hl 1 rfl) ?_
        refine lv_iload_n hx hb dX0_signsOnBothSides_34 rfl (lv_at hl 2 rfl) ?_
        refine zrdV (As := [.int (nI e)]) ⟨hx, hb, hml, hown, hts⟩ (kX0_secondSide l G a σ e (hO) (by omega)) (cwV 1 hts gX0_signsOnBothSides_X0_secondSide rfl rfl rfl (by decide +kernel) ⟨Nat.le_of_ble_eq_true rfl, Nat.le_of_ble_eq_true rfl⟩) hG (va_recv (q0 := 0) (ci := 0) hG.1 hP rfl rfl) (hP) rfl rfl hl.1 dX0_signsOnBothSides_35 (Nat.le_of_ble_eq_true rfl) ⟨Nat.le_of_ble_eq_true rfl, Nat.le_of_ble_eq_true rfl⟩ ?_
        refine lv_iload_n hx hb dX0_signsOnBothSides_38 rfl (lv_at hl 4 rfl) ?_
        refine zrdV (As := [.int (nI (sS σ e)), .int (nI (sD σ e)), .int (nI i)]) ⟨hx, hb, hml, hown, hts⟩ (kX0_signAt l G a σ (sS σ e) (sD σ e) i (by omega) (by omega) (by omega)) (cwV 3 hts gX0_signsOnBothSides_X0_signAt rfl rfl rfl (by decide +kernel) ⟨Nat.le_of_ble_eq_true rfl, Nat.le_of_ble_eq_true rfl⟩) hG (va_recv (q0 := 0) (ci := 0) hG.1 hP rfl rfl) (hP) rfl rfl hl.1 dX0_signsOnBothSides_39 (Nat.le_of_ble_eq_true rfl) ⟨Nat.le_of_ble_eq_true rfl, Nat.le_of_ble_eq_true rfl⟩ ?_
        refine lv_istore (lv' := [(5, .int (nI (sgn σ (sS σ e) (sD σ e) i))), (4, .int (nI (sgn σ (fS σ e) (fD σ e) i))), (0, .ref (a 0)), (1, .int (nI e)), (2, .int (nI xx)), (3, .int (nI i))]) hx hb dX0_signsOnBothSides_42 hl (by decide) rfl (fun ls hl => ?_)
        have hg1 := hO.sg (show fS σ e < 36 by omega) hd1 (show i < 10 by omega)
        have hg2 := hO.sg (show sS σ e < 36 by omega) hd2 (show i < 10 by omega)
        refine lv_iload hx hb dX0_signsOnBothSides_44 (lv_at hl 1 rfl) ?_
        refine lv_bipush (v := nI 10) hx hb dX0_signsOnBothSides_46 (by decide) ?_
        refine lv_icmp_eq (tgt := 61) hx hb dX0_signsOnBothSides_48 (by decide) (fun h48 => ?_) (fun h48 => ?_)
        · skip
          have h48 : (sgn σ (fS σ e) (fD σ e) i) = 10 := (nI_eq (by omega) (by omega)).mp h48
          refine lv_iinc (v := nI (i + 1)) (lv' := [(3, .int (nI (i + 1))), (5, .int (nI (sgn σ (sS σ e) (sD σ e) i))), (4, .int (nI (sgn σ (fS σ e) (fD σ e) i))), (0, .ref (a 0)), (1, .int (nI e)), (2, .int (nI xx))]) hx hb dX0_signsOnBothSides_61 hl (k := 5) rfl (zinc1 _) (by decide) rfl (fun ls hl => ?_)
          refine lv_goto (tgt := 4) hx hb dX0_signsOnBothSides_64 (by decide) ?_
          exact ih (i + 1) xx (by rw [sm, ← hxx]; try (simp [h7, h48] <;> omega)) (by omega) (by omega) _ (lv_sub hl [3, 4, 5, 0] rfl)
        · skip
          have h48 : ¬ ((sgn σ (fS σ e) (fD σ e) i) = 10) := fun q => h48 ((nI_eq (by omega) (by omega)).mpr q)
          refine lv_iload hx hb dX0_signsOnBothSides_51 (lv_at hl 0 rfl) ?_
          refine lv_bipush (v := nI 10) hx hb dX0_signsOnBothSides_53 (by decide) ?_
          refine lv_icmp_eq (tgt := 61) hx hb dX0_signsOnBothSides_55 (by decide) (fun h55 => ?_) (fun h55 => ?_)
          · skip
            have h55 : (sgn σ (sS σ e) (sD σ e) i) = 10 := (nI_eq (by omega) (by omega)).mp h55
            refine lv_iinc (v := nI (i + 1)) (lv' := [(3, .int (nI (i + 1))), (5, .int (nI (sgn σ (sS σ e) (sD σ e) i))), (4, .int (nI (sgn σ (fS σ e) (fD σ e) i))), (0, .ref (a 0)), (1, .int (nI e)), (2, .int (nI xx))]) hx hb dX0_signsOnBothSides_61 hl (k := 5) rfl (zinc1 _) (by decide) rfl (fun ls hl => ?_)
            refine lv_goto (tgt := 4) hx hb dX0_signsOnBothSides_64 (by decide) ?_
            exact ih (i + 1) xx (by rw [sm, ← hxx]; try (simp [h7, h48, h55] <;> omega)) (by omega) (by omega) _ (lv_sub hl [3, 4, 5, 0] rfl)
          · skip
            have h55 : ¬ ((sgn σ (sS σ e) (sD σ e) i) = 10) := fun q => h55 ((nI_eq (by omega) (by omega)).mpr q)
            refine lv_iinc (v := nI (xx + 1)) (lv' := [(2, .int (nI (xx + 1))), (5, .int (nI (sgn σ (sS σ e) (sD σ e) i))), (4, .int (nI (sgn σ (fS σ e) (fD σ e) i))), (0, .ref (a 0)), (1, .int (nI e)), (3, .int (nI i))]) hx hb dX0_signsOnBothSides_58 hl (k := 4) rfl (zinc1 _) (by decide) rfl (fun ls hl => ?_)
            refine lv_iinc (v := nI (i + 1)) (lv' := [(3, .int (nI (i + 1))), (2, .int (nI (xx + 1))), (5, .int (nI (sgn σ (sS σ e) (sD σ e) i))), (4, .int (nI (sgn σ (fS σ e) (fD σ e) i))), (0, .ref (a 0)), (1, .int (nI e))]) hx hb dX0_signsOnBothSides_61 hl (k := 5) rfl (zinc1 _) (by decide) rfl (fun ls hl => ?_)
            refine lv_goto (tgt := 4) hx hb dX0_signsOnBothSides_64 (by decide) ?_
            exact ih (i + 1) (xx + 1) (by rw [sm, ← hxx]; try (simp [h7, h48, h55] <;> omega)) (by omega) (by omega) _ (lv_sub hl [4, 5, 1, 0] rfl)
  exact loop4 (10 + 1) 0 0 (rfl) (by omega) (by omega) _ (lv_sub hl [2, 3, 1, 0] rfl)
set_option maxHeartbeats 4000000 in
set_option maxRecDepth 100000 in
theorem kX0_lowestSign (l : Launch) (G : zG) (a : Nat → Nat) (σ : Nat → Nat) {N : Nat} (k : Nat) (v : Nat) (hO : Ok N σ) (hk : k < 36) (hv : v < 10) : Met l yX0_lowestSign wsX0_lowestSign (zRm 2 44) (zPc G [.ref (a 0), .int (nI k), .int (nI v)] (va_P G.1 vwCl (wA G a σ))) (zS (.int (zc 10 (lws σ k v)))) 0 0 (fun _ => False) := by
  refine zmkI (cc := cX0_lowestSign) (maxL := 4) (by decide) rfl (Nat.le_of_ble_eq_true rfl) ?_
  intro pr en st mi ar bl me cd ls Q hx hb hml hown hts hG hP hl hret
  have hown : st.vm.findClass RX0 = some mi.cls := hown
  have hl : lv_has ls 4 [(0, .ref (a 0)), (1, .int (nI k)), (2, .int (nI v))] := hl
  have hP : va_P G.1 vwCl (wA G a σ) st.heap := hP
  have hc := hO.c
  have hs := hO.lS
  have hr := hO.lR
  have hne := hO.lE
  refine lv_iconst (v := nI 0) hx hb dX0_lowestSign_0 (by decide) ?_
  refine lv_istore_n (lv' := [(3, .int (nI 0)), (0, .ref (a 0)), (1, .int (nI k)), (2, .int (nI v))]) hx hb dX0_lowestSign_1 rfl hl (by decide) rfl (fun ls hl => ?_)
  have loop2 : ∀ (n : Nat) (i : Nat) (hz : ∀ j, j < i → decide (mng σ k j = v) = false) (hi : i ≤ 10) (hn : 10 < i + n) (ls : Array Slot) (hl : lv_has ls 4 [(0, .ref (a 0)), (1, .int (nI k)), (2, .int (nI v)), (3, .int (nI i))]), W pr l en (zRm 2 44) st mi ar bl me cd st.heap [] 0 0 Q (F0 mi 2 ls []) := by
    intro n
    induction n with
    | zero => intro i hz hi hn ls hl; exfalso; omega
    | succ n ih =>
      intro i hz hi hn ls hl
      refine lv_iload_n hx hb dX0_lowestSign_2 rfl (lv_at hl 3 rfl) ?_
      refine lv_bipush (v := nI 10) hx hb dX0_lowestSign_3 (by decide) ?_
      refine lv_icmp_ge (tgt := 26) hx hb dX0_lowestSign_5 (by decide) (fun h5 => ?_) (fun h5 => ?_)
      · skip
        have h5 : 10 ≤ i := (nI_leI (by omega) (by omega)).mp h5
        refine lv_bipush (v := (-4)) hx hb dX0_lowestSign_26 (by decide) ?_
        exact hret _ _ _ dX0_lowestSign_28 (by rw [show lws σ k v = 10 from fst1_no (fun j hj => hz j (by omega)), zc_b])
      · skip
        have h5 : ¬ (10 ≤ i) := fun q => h5 ((nI_leI (by omega) (by omega)).mpr q)
        refine lv_aload_n hx hb dX0_lowestSign_8 rfl (lv_at hl 0 rfl) ?_
        refine lv_iload_n hx hb dX0_lowestSign_9 rfl (lv_at hl 1 rfl) ?_
        refine lv_iload_n hx hb dX0_lowestSign_10 rfl (lv_at hl 3 rfl) ?_
        refine zrdV (As := [.int (nI k), .int (nI i)]) ⟨hx, hb, hml, hown, hts⟩ (kX0_meaningOf l G a σ k i (by omega) (by omega)) (cwV 2 hts gX0_lowestSign_X0_meaningOf rfl rfl rfl (by decide +kernel) ⟨Nat.le_of_ble_eq_true rfl, Nat.le_of_ble_eq_true rfl⟩) hG (va_recv (q0 := 0) (ci := 0) hG.1 hP rfl rfl) (hP) rfl rfl hl.1 dX0_lowestSign_11 (Nat.le_of_ble_eq_true rfl) ⟨Nat.le_of_ble_eq_true rfl, Nat.le_of_ble_eq_true rfl⟩ ?_
        have hmg := hO.mg hk (show i < 10 by omega)
        refine lv_iload_n hx hb dX0_lowestSign_14 rfl (lv_at hl 2 rfl) ?_
        refine lv_icmp_ne (tgt := 20) hx hb dX0_lowestSign_15 (by decide) (fun h15 => ?_) (fun h15 => ?_)
        · skip
          have h15 : ¬ ((mng σ k i) = v) := fun q => h15 ((nI_eq (by omega) (by omega)).mpr q)
          refine lv_iinc (v := nI (i + 1)) (lv' := [(3, .int (nI (i + 1))), (0, .ref (a 0)), (1, .int (nI k)), (2, .int (nI v))]) hx hb dX0_lowestSign_20 hl (k := 3) rfl (zinc1 _) (by decide) rfl (fun ls hl => ?_)
          refine lv_goto (tgt := 2) hx hb dX0_lowestSign_23 (by decide) ?_
          exact ih (i + 1) (fun j hj => by rcases Nat.lt_succ_iff_lt_or_eq.mp hj with q | q; exact hz j q; rw [q]; simp [h15]) (by omega) (by omega) _ (lv_sub hl [1, 2, 3, 0] rfl)
        · skip
          have h15 : (mng σ k i) = v := (nI_eq (by omega) (by omega)).mp h15
          refine lv_iload_n hx hb dX0_lowestSign_18 rfl (lv_at hl 3 rfl) ?_
          exact hret _ _ _ dX0_lowestSign_19 (by rw [show lws σ k v = i from fst1_at (by omega) hz (by simp [h15]), zc_n (by omega)])
  exact loop2 11 0 (fun j hj => absurd hj (Nat.not_lt_zero j)) (by omega) (by omega) _ (lv_sub hl [1, 2, 3, 0] rfl)
set_option maxHeartbeats 4000000 in
set_option maxRecDepth 100000 in
theorem kX0_positionOfQuarrel (l : Launch) (G : zG) (a : Nat → Nat) (σ : Nat → Nat) {N : Nat} (e : Nat) (i : Nat) (hO : Ok N σ) (he : e < nE σ) (hi31 : i < 2 ^ 31) : Met l yX0_positionOfQuarrel wsX0_positionOfQuarrel (zRm 3 70) (zPc G [.ref (a 0), .int (nI e), .int (nI i)] (va_P G.1 vwCl (wA G a σ))) (zS (.int (zc 10 (pq σ e i)))) 0 0 (fun _ => False) := by
  refine zmkI (cc := cX0_positionOfQuarrel) (maxL := 5) (by decide) rfl (Nat.le_of_ble_eq_true rfl) ?_
  intro pr en st mi ar bl me cd ls Q hx hb hml hown hts hG hP hl hret
  have hown : st.vm.findClass RX0 = some mi.cls := hown
  have hl : lv_has ls 5 [(0, .ref (a 0)), (1, .int (nI e)), (2, .int (nI i))] := hl
  have hP : va_P G.1 vwCl (wA G a σ) st.heap := hP
  have hc := hO.c
  have hs := hO.lS
  have hr := hO.lR
  have hne := hO.lE
  refine lv_iconst (v := nI 0) hx hb dX0_positionOfQuarrel_0 (by decide) ?_
  refine lv_istore_n (lv' := [(3, .int (nI 0)), (0, .ref (a 0)), (1, .int (nI e)), (2, .int (nI i))]) hx hb dX0_positionOfQuarrel_1 rfl hl (by decide) rfl (fun ls hl => ?_)
  refine lv_iconst (v := nI 0) hx hb dX0_positionOfQuarrel_2 (by decide) ?_
  refine lv_istore (lv' := [(4, .int (nI 0)), (3, .int (nI 0)), (0, .ref (a 0)), (1, .int (nI e)), (2, .int (nI i))]) hx hb dX0_positionOfQuarrel_3 hl (by decide) rfl (fun ls hl => ?_)
  have loop5 : ∀ (n : Nat) (q : Nat) (b : Nat) (hb1 : b = qb σ e q) (hz : ∀ j, j < q → decide (rsn σ e j ≠ 0 ∧ qb σ e j = i) = false) (hi : q ≤ 10) (hq2 : b ≤ q) (hn : 10 < q + n) (ls : Array Slot) (hl : lv_has ls 5 [(0, .ref (a 0)), (1, .int (nI e)), (2, .int (nI i)), (3, .int (nI b)), (4, .int (nI q))]), W pr l en (zRm 3 70) st mi ar bl me cd st.heap [] 0 0 Q (F0 mi 5 ls []) := by
    intro n
    induction n with
    | zero => intro q b hb1 hz hi hq2 hn ls hl; exfalso; omega
    | succ n ih =>
      intro q b hb1 hz hi hq2 hn ls hl
      refine lv_iload hx hb dX0_positionOfQuarrel_5 (lv_at hl 4 rfl) ?_
      refine lv_bipush (v := nI 10) hx hb dX0_positionOfQuarrel_7 (by decide) ?_
      refine lv_icmp_ge (tgt := 39) hx hb dX0_positionOfQuarrel_9 (by decide) (fun h9 => ?_) (fun h9 => ?_)
      · skip
        have h9 : 10 ≤ q := (nI_leI (by omega) (by omega)).mp h9
        refine lv_bipush (v := (-4)) hx hb dX0_positionOfQuarrel_39 (by decide) ?_
        exact hret _ _ _ dX0_positionOfQuarrel_41 (by rw [show pq σ e i = 10 from fst1_no (fun j hj => hz j (by omega)), zc_b])
      · skip
        have h9 : ¬ (10 ≤ q) := fun q => h9 ((nI_leI (by omega) (by omega)).mpr q)
        refine lv_aload_n hx hb dX0_positionOfQuarrel_12 rfl (lv_at hl 0 rfl) ?_
        refine lv_iload_n hx hb dX0_positionOfQuarrel_13 rfl (lv_at hl 1 rfl) ?_
        refine lv_iload hx hb dX0_positionOfQuarrel_14 (lv_at hl 4 rfl) ?_
        refine zrdV (As := [.int (nI e), .int (nI q)]) ⟨hx, hb, hml, hown, hts⟩ (kX0_reasonAt l G a σ e q (hO) (by omega) (by omega)) (cwV 2 hts gX0_positionOfQuarrel_X0_reasonAt rfl rfl rfl (by decide +kernel) ⟨Nat.le_of_ble_eq_true rfl, Nat.le_of_ble_eq_true rfl⟩) hG (va_recv (q0 := 0) (ci := 0) hG.1 hP rfl rfl) (hP) rfl rfl hl.1 dX0_positionOfQuarrel_16 (Nat.le_of_ble_eq_true rfl) ⟨Nat.le_of_ble_eq_true rfl, Nat.le_of_ble_eq_true rfl⟩ ?_
        have hf16_0 := rsn_le σ (e) (q)
        refine lv_if_eq (tgt := 33) hx hb dX0_positionOfQuarrel_19 (by decide) (fun h19 => ?_) (fun h19 => ?_)
        · skip
          have h19 : (rsn σ e q) = 0 := (z_eq0 (by omega)).mp h19
          refine lv_iinc (v := nI (q + 1)) (lv' := [(4, .int (nI (q + 1))), (0, .ref (a 0)), (1, .int (nI e)), (2, .int (nI i)), (3, .int (nI b))]) hx hb dX0_positionOfQuarrel_33 hl (k := 4) rfl (zinc1 _) (by decide) rfl (fun ls hl => ?_)
          refine lv_goto (tgt := 5) hx hb dX0_positionOfQuarrel_36 (by decide) ?_
          exact ih (q + 1) b (by unfold qb at hb1 ⊢; rw [sm, ← hb1]; simp [h19] <;> omega) (fun j hj => by rcases Nat.lt_succ_iff_lt_or_eq.mp hj with z | z; exact hz j z; rw [z]; simp [h19]) (by omega) (by omega) (by omega) _ (lv_sub hl [1, 2, 3, 4, 0] rfl)
        · skip
          have h19 : ¬ ((rsn σ e q) = 0) := fun q => h19 ((z_eq0 (by omega)).mpr q)
          have h19 : 0 < (rsn σ e q) := Nat.pos_of_ne_zero h19
          refine lv_iload_n hx hb dX0_positionOfQuarrel_22 rfl (lv_at hl 3 rfl) ?_
          refine lv_iload_n hx hb dX0_positionOfQuarrel_23 rfl (lv_at hl 2 rfl) ?_
          refine lv_icmp_ne (tgt := 30) hx hb dX0_positionOfQuarrel_24 (by decide) (fun h24 => ?_) (fun h24 => ?_)
          · skip
            have h24 : ¬ (b = i) := fun q => h24 ((nI_eq (by omega) (by omega)).mpr q)
            refine lv_iinc (v := nI (b + 1)) (lv' := [(3, .int (nI (b + 1))), (0, .ref (a 0)), (1, .int (nI e)), (2, .int (nI i)), (4, .int (nI q))]) hx hb dX0_positionOfQuarrel_30 hl (k := 3) rfl (zinc1 _) (by decide) rfl (fun ls hl => ?_)
            refine lv_iinc (v := nI (q + 1)) (lv' := [(4, .int (nI (q + 1))), (3, .int (nI (b + 1))), (0, .ref (a 0)), (1, .int (nI e)), (2, .int (nI i))]) hx hb dX0_positionOfQuarrel_33 hl (k := 4) rfl (zinc1 _) (by decide) rfl (fun ls hl => ?_)
            refine lv_goto (tgt := 5) hx hb dX0_positionOfQuarrel_36 (by decide) ?_
            exact ih (q + 1) (b + 1) (by unfold qb at hb1 ⊢; rw [sm, ← hb1]; simp [h19] <;> omega) (fun j hj => by rcases Nat.lt_succ_iff_lt_or_eq.mp hj with z | z; exact hz j z; rw [z]; simp [h19, ← hb1, h24]) (by omega) (by omega) (by omega) _ (lv_sub hl [2, 3, 4, 1, 0] rfl)
          · skip
            have h24 : b = i := (nI_eq (by omega) (by omega)).mp h24
            refine lv_iload hx hb dX0_positionOfQuarrel_27 (lv_at hl 4 rfl) ?_
            exact hret _ _ _ dX0_positionOfQuarrel_29 (by rw [show pq σ e i = q from fst1_at (by omega) hz (by simp [← hb1, h24]; omega), zc_n (by omega)])
  exact loop5 11 0 0 (rfl) (fun j hj => absurd hj (Nat.not_lt_zero j)) (by omega) (by omega) (by omega) _ (lv_sub hl [2, 3, 4, 1, 0] rfl)
set_option maxHeartbeats 4000000 in
set_option maxRecDepth 100000 in
theorem kX0_breaksAgreement (l : Launch) (G : zG) (a : Nat → Nat) (σ : Nat → Nat) {N : Nat} (k : Nat) (hO : Ok N σ) (hk : k < nS σ) : Met l yX0_breaksAgreement wsX0_breaksAgreement (zRm 4 93) (zPc G [.ref (a 0), .int (nI k)] (va_P G.1 vwCl (wA G a σ))) (zS (.int (if 0 < brkN σ k then 1 else 0))) 0 0 (fun _ => False) := by
  refine zmkZ (cc := cX0_breaksAgreement) (maxL := 4) (by decide) rfl (Nat.le_of_ble_eq_true rfl) ?_
  intro pr en st mi ar bl me cd ls Q hx hb hml hown hts hG hP hl hret
  have hown : st.vm.findClass RX0 = some mi.cls := hown
  have hl : lv_has ls 4 [(0, .ref (a 0)), (1, .int (nI k))] := hl
  have hP : va_P G.1 vwCl (wA G a σ) st.heap := hP
  have hc := hO.c
  have hs := hO.lS
  have hr := hO.lR
  have hne := hO.lE
  refine lv_iconst (v := nI 0) hx hb dX0_breaksAgreement_0 (by decide) ?_
  refine lv_istore_n (lv' := [(2, .int (nI 0)), (0, .ref (a 0)), (1, .int (nI k))]) hx hb dX0_breaksAgreement_1 rfl hl (by decide) rfl (fun ls hl => ?_)
  have loop2 : ∀ (n : Nat) (i : Nat) (hz : sm (fun d => if agF σ (eO σ k d) = 1 ∧ 0 < qrl σ (eO σ k d) then 1 else 0) i = 0) (hi : i ≤ 4) (hn : 4 < i + n) (ls : Array Slot) (hl : lv_has ls 4 [(0, .ref (a 0)), (1, .int (nI k)), (2, .int (nI i))]), W pr l en (zRm 4 93) st mi ar bl me cd st.heap [] 0 0 Q (F0 mi 2 ls []) := by
    intro n
    induction n with
    | zero => intro i hz hi hn ls hl; exfalso; omega
    | succ n ih =>
      intro i hz hi hn ls hl
      refine lv_iload_n hx hb dX0_breaksAgreement_2 rfl (lv_at hl 2 rfl) ?_
      refine lv_iconst (v := nI 4) hx hb dX0_breaksAgreement_3 (by decide) ?_
      refine lv_icmp_ge (tgt := 38) hx hb dX0_breaksAgreement_4 (by decide) (fun h4 => ?_) (fun h4 => ?_)
      · skip
        have h4 : 4 ≤ i := (nI_leI (by omega) (by omega)).mp h4
        refine lv_iconst (v := nI 0) hx hb dX0_breaksAgreement_38 (by decide) ?_
        exact hret _ _ _ dX0_breaksAgreement_39 (z_f (by obtain rfl : i = 4 := (by omega); unfold brkN; omega))
      · skip
        have h4 : ¬ (4 ≤ i) := fun q => h4 ((nI_leI (by omega) (by omega)).mpr q)
        refine lv_aload_n hx hb dX0_breaksAgreement_7 rfl (lv_at hl 0 rfl) ?_
        refine lv_iload_n hx hb dX0_breaksAgreement_8 rfl (lv_at hl 1 rfl) ?_
        refine lv_iload_n hx hb dX0_breaksAgreement_9 rfl (lv_at hl 2 rfl) ?_
        refine zrdV (As := [.int (nI k), .int (nI i)]) ⟨hx, hb, hml, hown, hts⟩ (kX0_edgeOf l G a σ k i (hO) (by omega) (by omega)) (cwV 2 hts gX0_breaksAgreement_X0_edgeOf rfl rfl rfl (by decide +kernel) ⟨Nat.le_of_ble_eq_true rfl, Nat.le_of_ble_eq_true rfl⟩) hG (va_recv (q0 := 0) (ci := 0) hG.1 hP rfl rfl) (hP) rfl rfl hl.1 dX0_breaksAgreement_10 (Nat.le_of_ble_eq_true rfl) ⟨Nat.le_of_ble_eq_true rfl, Nat.le_of_ble_eq_true rfl⟩ ?_
        have hf10_0 := hO.lO2 (show k < nS σ by omega) (show i < 4 by omega)
        refine lv_istore_n (lv' := [(3, .int (zc 60 (eO σ k i))), (0, .ref (a 0)), (1, .int (nI k)), (2, .int (nI i))]) hx hb dX0_breaksAgreement_13 rfl hl (by decide) rfl (fun ls hl => ?_)
        refine lv_aload_n hx hb dX0_breaksAgreement_14 rfl (lv_at hl 1 rfl) ?_
        refine lv_iload_n hx hb dX0_breaksAgreement_15 rfl (lv_at hl 0 rfl) ?_
        refine zrdV (As := [.int (zc 60 (eO σ k i))]) ⟨hx, hb, hml, hown, hts⟩ (kX0_isAgreed_o l G a σ (eO σ k i) (hO) (by omega)) (cwV 1 hts gX0_breaksAgreement_X0_isAgreed rfl rfl rfl (by decide +kernel) ⟨Nat.le_of_ble_eq_true rfl, Nat.le_of_ble_eq_true rfl⟩) hG (va_recv (q0 := 0) (ci := 0) hG.1 hP rfl rfl) (hP) rfl rfl hl.1 dX0_breaksAgreement_16 (Nat.le_of_ble_eq_true rfl) ⟨Nat.le_of_ble_eq_true rfl, Nat.le_of_ble_eq_true rfl⟩ ?_
        refine lv_if_eq (tgt := 32) hx hb dX0_breaksAgreement_19 (by decide) (fun h19 => ?_) (fun h19 => ?_)
        · skip
          have h19 : ¬ (agF σ (eO σ k i) = 1) := (z_b0).mp h19
          refine lv_iinc (v := nI (i + 1)) (lv' := [(2, .int (nI (i + 1))), (3, .int (zc 60 (eO σ k i))), (0, .ref (a 0)), (1, .int (nI k))]) hx hb dX0_breaksAgreement_32 hl (k := 3) rfl (zinc1 _) (by decide) rfl (fun ls hl => ?_)
          refine lv_goto (tgt := 2) hx hb dX0_breaksAgreement_35 (by decide) ?_
          exact ih (i + 1) (by rw [sm, hz]; simp [h19] <;> omega) (by omega) (by omega) _ (lv_sub hl [2, 3, 0] rfl)
        · skip
          have h19 : ¬ (¬ (agF σ (eO σ k i) = 1)) := fun q => h19 ((z_b0).mpr q)
          have h19 : agF σ (eO σ k i) = 1 := Decidable.of_not_not h19
          have hE60 : eO σ k i ≠ 60 := fun z => by rw [z, agF_60] at h19; exact absurd h19 (by decide)
          have hEn := (hO.lO hk (show i < 4 by omega)).resolve_left hE60
          have hzc : zc 60 (eO σ k i) = nI (eO σ k i) := zc_n hE60
          rw [hzc] at hl
          refine lv_aload_n hx hb dX0_breaksAgreement_22 rfl (lv_at hl 1 rfl) ?_
          refine lv_iload_n hx hb dX0_breaksAgreement_23 rfl (lv_at hl 0 rfl) ?_
          refine zrdV (As := [.int (nI (eO σ k i))]) ⟨hx, hb, hml, hown, hts⟩ (kX0_quarrelsOf l G a σ (eO σ k i) (hO) (by omega)) (cwV 1 hts gX0_breaksAgreement_X0_quarrelsOf rfl rfl rfl (by decide +kernel) ⟨Nat.le_of_ble_eq_true rfl, Nat.le_of_ble_eq_true rfl⟩) hG (va_recv (q0 := 0) (ci := 0) hG.1 hP rfl rfl) (hP) rfl rfl hl.1 dX0_breaksAgreement_24 (Nat.le_of_ble_eq_true rfl) ⟨Nat.le_of_ble_eq_true rfl, Nat.le_of_ble_eq_true rfl⟩ ?_
          have hf24_0 := qrl_le σ ((eO σ k i))
          refine lv_if_le (tgt := 32) hx hb dX0_breaksAgreement_27 (by decide) (fun h27 => ?_) (fun h27 => ?_)
          · skip
            have h27 : (qrl σ (eO σ k i)) = 0 := (z_le0 (by omega)).mp h27
            refine lv_iinc (v := nI (i + 1)) (lv' := [(2, .int (nI (i + 1))), (3, .int (nI (eO σ k i))), (0, .ref (a 0)), (1, .int (nI k))]) hx hb dX0_breaksAgreement_32 hl (k := 3) rfl (zinc1 _) (by decide) rfl (fun ls hl => ?_)
            refine lv_goto (tgt := 2) hx hb dX0_breaksAgreement_35 (by decide) ?_
            exact ih (i + 1) (by rw [sm, hz]; simp [h19, h27] <;> omega) (by omega) (by omega) _ (lv_sub hl [2, 3, 0] rfl)
          · skip
            have h27 : ¬ ((qrl σ (eO σ k i)) = 0) := fun q => h27 ((z_le0 (by omega)).mpr q)
            have h27 : 0 < (qrl σ (eO σ k i)) := Nat.pos_of_ne_zero h27
            refine lv_iconst (v := nI 1) hx hb dX0_breaksAgreement_30 (by decide) ?_
            exact hret _ _ _ dX0_breaksAgreement_31 (z_t (by unfold brkN; exact brk_pos (show i < 4 by omega) ⟨h19, h27⟩))
  exact loop2 5 0 (rfl) (by omega) (by omega) _ (lv_sub hl [1, 2, 0] rfl)
