set_option maxHeartbeats 4000000 in
set_option maxRecDepth 100000 in
theorem kX0_floatScale (l : Launch) (G : zG) (a : Nat → Nat) (σ : Nat → Nat) {N : Nat} (k : Nat) (hO : Ok N σ) (hk : k < 36) : Met l yX0_floatScale wsX0_floatScale (zRm 2 43) (zPc G [.ref (a 0), .int (nI k)] (va_P G.1 vwCl (wA G a σ))) (zS (.float (fsc σ k))) 0 0 (fun _ => False) := by
  refine zmkF (cc := cX0_floatScale) (maxL := 2) (by decide) rfl (Nat.le_of_ble_eq_true rfl) ?_
  intro pr en st mi ar bl me cd ls Q hx hb hml hown hts hG hP hl hret
  have hown : st.vm.findClass RX0 = some mi.cls := hown
  have hl : lv_has ls 2 [(0, .ref (a 0)), (1, .int (nI k))] := hl
  have hP : va_P G.1 vwCl (wA G a σ) st.heap := hP
  have hc156 := hts (.constantFloat RX0 156 (1148846080)) (by decide +kernel)
  have hc := hO.c
  have hs := hO.lS
  have hr := hO.lR
  have hne := hO.lE
  refine lv_aload_n hx hb dX0_floatScale_0 rfl (lv_at hl 0 rfl) ?_
  refine lv_iload_n hx hb dX0_floatScale_1 rfl (lv_at hl 1 rfl) ?_
  refine zrdV (As := [.int (nI k)]) ⟨hx, hb, hml, hown, hts⟩ (kX0_scaleOf l G a σ k (hO) (by omega)) (cwV 1 hts gX0_floatScale_X0_scaleOf rfl rfl rfl (by decide +kernel) ⟨Nat.le_of_ble_eq_true rfl, Nat.le_of_ble_eq_true rfl⟩) hG (va_recv (q0 := 0) (ci := 0) hG.1 hP rfl rfl) (hP) rfl rfl hl.1 dX0_floatScale_2 (Nat.le_of_ble_eq_true rfl) ⟨Nat.le_of_ble_eq_true rfl, Nat.le_of_ble_eq_true rfl⟩ ?_
  have hf2_0 := hO.sc (show k < 36 by omega)
  refine lv_i2f hx hb dX0_floatScale_5 ?_
  refine lv_ldcf hx hb hown hc156 dX0_floatScale_6 ?_
  refine lv_fdiv hx hb dX0_floatScale_8 (vf_of_lt ((hO.fs hk).lt (by decide))) ?_
  exact hret _ _ _ dX0_floatScale_9 (rfl)
set_option maxHeartbeats 4000000 in
set_option maxRecDepth 100000 in
theorem kX0_ratioOf (l : Launch) (G : zG) (a : Nat → Nat) (σ : Nat → Nat) {N : Nat} (e : Nat) (hO : Ok N σ) (he : e < nE σ) : Met l yX0_ratioOf wsX0_ratioOf (zRm 3 64) (zPc G [.ref (a 0), .int (nI e)] (va_P G.1 vwCl (wA G a σ))) (zS (.float (rat σ e))) 0 0 (fun _ => False) := by
  refine zmkF (cc := cX0_ratioOf) (maxL := 3) (by decide) rfl (Nat.le_of_ble_eq_true rfl) ?_
  intro pr en st mi ar bl me cd ls Q hx hb hml hown hts hG hP hl hret
  have hown : st.vm.findClass RX0 = some mi.cls := hown
  have hl : lv_has ls 3 [(0, .ref (a 0)), (1, .int (nI e))] := hl
  have hP : va_P G.1 vwCl (wA G a σ) st.heap := hP
  have hc := hO.c
  have hs := hO.lS
  have hr := hO.lR
  have hne := hO.lE
  have hf := hO.lF he
  refine lv_aload_n hx hb dX0_ratioOf_0 rfl (lv_at hl 0 rfl) ?_
  refine lv_aload_n hx hb dX0_ratioOf_1 rfl (lv_at hl 0 rfl) ?_
  refine lv_iload_n hx hb dX0_ratioOf_2 rfl (lv_at hl 1 rfl) ?_
  refine zrdV (As := [.int (nI e)]) ⟨hx, hb, hml, hown, hts⟩ (kX0_secondSheet l G a σ e (hO) (by omega)) (cwV 1 hts gX0_ratioOf_X0_secondSheet rfl rfl rfl (by decide +kernel) ⟨Nat.le_of_ble_eq_true rfl, Nat.le_of_ble_eq_true rfl⟩) hG (va_recv (q0 := 0) (ci := 0) hG.1 hP rfl rfl) (hP) rfl rfl hl.1 dX0_ratioOf_3 (Nat.le_of_ble_eq_true rfl) ⟨Nat.le_of_ble_eq_true rfl, Nat.le_of_ble_eq_true rfl⟩ ?_
  have hf3_0 := hO.lF (show e < nE σ by omega)
  refine zrdV (As := [.int (nI (sS σ e))]) ⟨hx, hb, hml, hown, hts⟩ (kX0_floatScale l G a σ (sS σ e) (hO) (by omega)) (cwV 1 hts gX0_ratioOf_X0_floatScale rfl rfl rfl (by decide +kernel) ⟨Nat.le_of_ble_eq_true rfl, Nat.le_of_ble_eq_true rfl⟩) hG (va_recv (q0 := 0) (ci := 0) hG.1 hP rfl rfl) (hP) rfl rfl hl.1 dX0_ratioOf_6 (Nat.le_of_ble_eq_true rfl) ⟨Nat.le_of_ble_eq_true rfl, Nat.le_of_ble_eq_true rfl⟩ ?_
  refine lv_fstore_n (lv' := [(2, .float (fsc σ (sS σ e))), (0, .ref (a 0)), (1, .int (nI e))]) hx hb dX0_ratioOf_9 rfl hl (by decide) rfl (fun ls hl => ?_)
  refine lv_fload_n hx hb dX0_ratioOf_10 rfl (lv_at hl 0 rfl) ?_
  refine lv_fconst0 hx hb dX0_ratioOf_11 ?_
  refine lv_fcmp hx hb dX0_ratioOf_12 ?_
  refine lv_if_le (tgt := 30) hx hb dX0_ratioOf_13 (by decide) (fun h13 => ?_) (fun h13 => ?_)
  · skip
    have h13 : (fsc σ (sS σ e)).toNat ≤ FP.fconst0.toNat := (z_fle ((hO.fs (show sS σ e < 36 by omega)).lt (by decide)) (by decide)).mp h13
    have q := (hO.fs (show sS σ e < 36 by omega)).1; rw [z_zero] at h13; omega
  · skip
    have h13 : ¬ ((fsc σ (sS σ e)).toNat ≤ FP.fconst0.toNat) := fun q => h13 ((z_fle ((hO.fs (show sS σ e < 36 by omega)).lt (by decide)) (by decide)).mpr q)
    refine lv_aload_n hx hb dX0_ratioOf_16 rfl (lv_at hl 1 rfl) ?_
    refine lv_aload_n hx hb dX0_ratioOf_17 rfl (lv_at hl 1 rfl) ?_
    refine lv_iload_n hx hb dX0_ratioOf_18 rfl (lv_at hl 2 rfl) ?_
    refine zrdV (As := [.int (nI e)]) ⟨hx, hb, hml, hown, hts⟩ (kX0_firstSheet l G a σ e (hO) (by omega)) (cwV 1 hts gX0_ratioOf_X0_firstSheet rfl rfl rfl (by decide +kernel) ⟨Nat.le_of_ble_eq_true rfl, Nat.le_of_ble_eq_true rfl⟩) hG (va_recv (q0 := 0) (ci := 0) hG.1 hP rfl rfl) (hP) rfl rfl hl.1 dX0_ratioOf_19 (Nat.le_of_ble_eq_true rfl) ⟨Nat.le_of_ble_eq_true rfl, Nat.le_of_ble_eq_true rfl⟩ ?_
    have hf19_0 := hO.lF (show e < nE σ by omega)
    refine zrdV (As := [.int (nI (fS σ e))]) ⟨hx, hb, hml, hown, hts⟩ (kX0_floatScale l G a σ (fS σ e) (hO) (by omega)) (cwV 1 hts gX0_ratioOf_X0_floatScale rfl rfl rfl (by decide +kernel) ⟨Nat.le_of_ble_eq_true rfl, Nat.le_of_ble_eq_true rfl⟩) hG (va_recv (q0 := 0) (ci := 0) hG.1 hP rfl rfl) (hP) rfl rfl hl.1 dX0_ratioOf_22 (Nat.le_of_ble_eq_true rfl) ⟨Nat.le_of_ble_eq_true rfl, Nat.le_of_ble_eq_true rfl⟩ ?_
    refine lv_fload_n hx hb dX0_ratioOf_25 rfl (lv_at hl 0 rfl) ?_
    refine lv_fdiv hx hb dX0_ratioOf_26 (vf_of_lt ((hO.rt he).lt (by decide))) ?_
    refine lv_goto (tgt := 31) hx hb dX0_ratioOf_27 (by decide) ?_
    exact hret _ _ _ dX0_ratioOf_31 (rfl)
set_option maxHeartbeats 4000000 in
set_option maxRecDepth 100000 in
theorem kX0_isFitting (l : Launch) (G : zG) (a : Nat → Nat) (σ : Nat → Nat) {N : Nat} (e : Nat) (hO : Ok N σ) (he : e < nE σ) : Met l yX0_isFitting wsX0_isFitting (zRm 4 86) (zPc G [.ref (a 0), .int (nI e)] (va_P G.1 vwCl (wA G a σ))) (zS (.int (if fitP σ e then 1 else 0))) 0 0 (fun _ => False) := by
  refine zmkZ (cc := cX0_isFitting) (maxL := 6) (by decide) rfl (Nat.le_of_ble_eq_true rfl) ?_
  intro pr en st mi ar bl me cd ls Q hx hb hml hown hts hG hP hl hret
  have hown : st.vm.findClass RX0 = some mi.cls := hown
  have hl : lv_has ls 6 [(0, .ref (a 0)), (1, .int (nI e))] := hl
  have hP : va_P G.1 vwCl (wA G a σ) st.heap := hP
  have hinX0 : ∀ w ∈ wsX00, w ∈ wsX0_isFitting := by decide +kernel
  have hf34 := hts (.fieldLink RX0 34 "MapSheets$Atlas" "tolerance" "I") (by decide +kernel)
  have hc164 := hts (.constantDouble RX0 164 (4652007308841189376)) (by decide +kernel)
  have hc := hO.c
  have hs := hO.lS
  have hr := hO.lR
  have hne := hO.lE
  have hrt := hO.rt he
  refine lv_aload_n hx hb dX0_isFitting_0 rfl (lv_at hl 0 rfl) ?_
  refine lv_iload_n hx hb dX0_isFitting_1 rfl (lv_at hl 1 rfl) ?_
  refine zrdV (As := [.int (nI e)]) ⟨hx, hb, hml, hown, hts⟩ (kX0_ratioOf l G a σ e (hO) (by omega)) (cwV 1 hts gX0_isFitting_X0_ratioOf rfl rfl rfl (by decide +kernel) ⟨Nat.le_of_ble_eq_true rfl, Nat.le_of_ble_eq_true rfl⟩) hG (va_recv (q0 := 0) (ci := 0) hG.1 hP rfl rfl) (hP) rfl rfl hl.1 dX0_isFitting_2 (Nat.le_of_ble_eq_true rfl) ⟨Nat.le_of_ble_eq_true rfl, Nat.le_of_ble_eq_true rfl⟩ ?_
  refine lv_f2d hx hb dX0_isFitting_5 (f2d_ok (vf_lt_val (hrt.lt (by decide)))) ?_
  refine lv_dconst1 hx hb dX0_isFitting_6 ?_
  refine lv_dsub hx hb dX0_isFitting_7 (dsub_ok (f2d_val (vf_lt_val (hrt.lt (by decide))))) ?_
  refine lv_dstore_n (lv' := [(2, .double (FP.dsub (FP.f2d (rat σ e)) FP.dconst1)), (0, .ref (a 0)), (1, .int (nI e))]) hx hb dX0_isFitting_8 rfl hl (by decide) rfl (fun ls hl => ?_)
  refine lv_dload_n hx hb dX0_isFitting_9 rfl (lv_at hl 0 rfl) ?_
  refine lv_dconst0 hx hb dX0_isFitting_10 ?_
  refine lv_dcmp hx hb dX0_isFitting_11 ?_
  refine lv_if_ge (tgt := 20) hx hb dX0_isFitting_12 (by decide) (fun h12 => ?_) (fun h12 => ?_)
  · skip
    refine lv_dload_n hx hb dX0_isFitting_20 rfl (lv_at hl 0 rfl) ?_
    refine lv_dstore (lv' := [(4, .double (FP.dsub (FP.f2d (rat σ e)) FP.dconst1)), (2, .double (FP.dsub (FP.f2d (rat σ e)) FP.dconst1)), (0, .ref (a 0)), (1, .int (nI e))]) hx hb dX0_isFitting_21 hl (by decide) rfl (fun ls hl => ?_)
    refine lv_dload hx hb dX0_isFitting_23 (lv_at hl 0 rfl) ?_
    refine lv_aload_n hx hb dX0_isFitting_25 rfl (lv_at hl 2 rfl) ?_
    refine va_get (D := G.1) (ci := 0) (v := .int (nI (σ 3))) (C := RX0) (T := TX0) (N := 10) hx hb hts hinX0 hown hG.1 hP 0 rfl rfl 9 (by decide) hf34 (fun _ h9 => h9) rfl dX0_isFitting_26 ?_
    refine lv_i2d hx hb dX0_isFitting_29 ?_
    refine lv_ldc2d hx hb hown hc164 dX0_isFitting_30 ?_
    refine lv_ddiv hx hb dX0_isFitting_33 (tol_ok _) ?_
    refine lv_dcmp hx hb dX0_isFitting_34 ?_
    refine lv_if_gt (tgt := 42) hx hb dX0_isFitting_35 (by decide) (fun h35 => ?_) (fun h35 => ?_)
    · skip
      refine lv_iconst (v := nI 0) hx hb dX0_isFitting_42 (by decide) ?_
      exact hret _ _ _ dX0_isFitting_43 (z_f (by unfold fitP szd off; rw [if_neg (Int32.not_lt.mpr h12)]; exact Int32.not_le.mpr h35))
    · skip
      refine lv_iconst (v := nI 1) hx hb dX0_isFitting_38 (by decide) ?_
      refine lv_goto (tgt := 43) hx hb dX0_isFitting_39 (by decide) ?_
      exact hret _ _ _ dX0_isFitting_43 (z_t (by unfold fitP szd off; rw [if_neg (Int32.not_lt.mpr h12)]; exact Int32.not_lt.mp h35))
  · skip
    refine lv_dload_n hx hb dX0_isFitting_15 rfl (lv_at hl 0 rfl) ?_
    refine lv_dneg hx hb dX0_isFitting_16 ?_
    refine lv_goto (tgt := 21) hx hb dX0_isFitting_17 (by decide) ?_
    refine lv_dstore (lv' := [(4, .double (FP.dneg (FP.dsub (FP.f2d (rat σ e)) FP.dconst1))), (2, .double (FP.dsub (FP.f2d (rat σ e)) FP.dconst1)), (0, .ref (a 0)), (1, .int (nI e))]) hx hb dX0_isFitting_21 hl (by decide) rfl (fun ls hl => ?_)
    refine lv_dload hx hb dX0_isFitting_23 (lv_at hl 0 rfl) ?_
    refine lv_aload_n hx hb dX0_isFitting_25 rfl (lv_at hl 2 rfl) ?_
    refine va_get (D := G.1) (ci := 0) (v := .int (nI (σ 3))) (C := RX0) (T := TX0) (N := 10) hx hb hts hinX0 hown hG.1 hP 0 rfl rfl 9 (by decide) hf34 (fun _ h9 => h9) rfl dX0_isFitting_26 ?_
    refine lv_i2d hx hb dX0_isFitting_29 ?_
    refine lv_ldc2d hx hb hown hc164 dX0_isFitting_30 ?_
    refine lv_ddiv hx hb dX0_isFitting_33 (tol_ok _) ?_
    refine lv_dcmp hx hb dX0_isFitting_34 ?_
    refine lv_if_gt (tgt := 42) hx hb dX0_isFitting_35 (by decide) (fun h35 => ?_) (fun h35 => ?_)
    · skip
      refine lv_iconst (v := nI 0) hx hb dX0_isFitting_42 (by decide) ?_
      exact hret _ _ _ dX0_isFitting_43 (z_f (by unfold fitP szd off; rw [if_pos (Int32.not_le.mp h12)]; exact Int32.not_le.mpr h35))
    · skip
      refine lv_iconst (v := nI 1) hx hb dX0_isFitting_38 (by decide) ?_
      refine lv_goto (tgt := 43) hx hb dX0_isFitting_39 (by decide) ?_
      exact hret _ _ _ dX0_isFitting_43 (z_t (by unfold fitP szd off; rw [if_pos (Int32.not_le.mp h12)]; exact Int32.not_lt.mp h35))
set_option maxHeartbeats 4000000 in
set_option maxRecDepth 100000 in
theorem kX0_fittingEdges (l : Launch) (G : zG) (a : Nat → Nat) (σ : Nat → Nat) {N : Nat}  (hO : Ok N σ) : Met l yX0_fittingEdges wsX0_fittingEdges (zRm 5 111) (zPc G [.ref (a 0)] (va_P G.1 vwCl (wA G a σ))) (zS (.int (nI (fitA σ)))) 0 0 (fun _ => False) := by
  refine zmkI (cc := cX0_fittingEdges) (maxL := 4) (by decide) rfl (Nat.le_of_ble_eq_true rfl) ?_
  intro pr en st mi ar bl me cd ls Q hx hb hml hown hts hG hP hl hret
  have hown : st.vm.findClass RX0 = some mi.cls := hown
  have hl : lv_has ls 4 [(0, .ref (a 0))] := hl
  have hP : va_P G.1 vwCl (wA G a σ) st.heap := hP
  have hc := hO.c
  have hs := hO.lS
  have hr := hO.lR
  have hne := hO.lE
  refine lv_aload_n hx hb dX0_fittingEdges_0 rfl (lv_at hl 0 rfl) ?_
  refine zrdV (As := []) ⟨hx, hb, hml, hown, hts⟩ (kX0_edgeCount l G a σ (hO)) (cwV 0 hts gX0_fittingEdges_X0_edgeCount rfl rfl rfl (by decide +kernel) ⟨Nat.le_of_ble_eq_true rfl, Nat.le_of_ble_eq_true rfl⟩) hG (va_recv (q0 := 0) (ci := 0) hG.1 hP rfl rfl) (hP) rfl rfl hl.1 dX0_fittingEdges_1 (Nat.le_of_ble_eq_true rfl) ⟨Nat.le_of_ble_eq_true rfl, Nat.le_of_ble_eq_true rfl⟩ ?_
  refine lv_istore_n (lv' := [(1, .int (nI (nE σ))), (0, .ref (a 0))]) hx hb dX0_fittingEdges_4 rfl hl (by decide) rfl (fun ls hl => ?_)
  refine lv_iconst (v := nI 0) hx hb dX0_fittingEdges_5 (by decide) ?_
  refine lv_istore_n (lv' := [(2, .int (nI 0)), (1, .int (nI (nE σ))), (0, .ref (a 0))]) hx hb dX0_fittingEdges_6 rfl hl (by decide) rfl (fun ls hl => ?_)
  refine lv_iconst (v := nI 0) hx hb dX0_fittingEdges_7 (by decide) ?_
  refine lv_istore_n (lv' := [(3, .int (nI 0)), (2, .int (nI 0)), (1, .int (nI (nE σ))), (0, .ref (a 0))]) hx hb dX0_fittingEdges_8 rfl hl (by decide) rfl (fun ls hl => ?_)
  have loop9 : ∀ (n : Nat) (i : Nat) (xx : Nat) (hxx : xx = sm (fun e => if fitP σ e then 1 else 0) i) (hi : i ≤ nE σ) (hn : nE σ < i + n) (ls : Array Slot) (hl : lv_has ls 4 [(0, .ref (a 0)), (1, .int (nI (nE σ))), (2, .int (nI xx)), (3, .int (nI i))]), W pr l en (zRm 5 111) st mi ar bl me cd st.heap [] 0 0 Q (F0 mi 9 ls []) := by
    intro n
    induction n with
    | zero => intro i xx hxx hi hn ls hl; exfalso; omega
    | succ n ih9 =>
      intro i xx hxx hi hn ls hl
      refine lv_iload_n hx hb dX0_fittingEdges_9 rfl (lv_at hl 3 rfl) ?_
      refine lv_iload_n hx hb dX0_fittingEdges_10 rfl (lv_at hl 1 rfl) ?_
      refine lv_icmp_ge (tgt := 31) hx hb dX0_fittingEdges_11 (by decide) (fun h11 => ?_) (fun h11 => ?_)
      · skip
        have h11 : (nE σ) ≤ i := (nI_leI (by omega) (by omega)).mp h11
        refine lv_iload_n hx hb dX0_fittingEdges_31 rfl (lv_at hl 2 rfl) ?_
        exact hret _ _ _ dX0_fittingEdges_32 (congrArg nI (by obtain rfl : i = nE σ := (by omega); exact hxx))
      · skip
        have h11 : ¬ ((nE σ) ≤ i) := fun q => h11 ((nI_leI (by omega) (by omega)).mpr q)
        refine lv_aload_n hx hb dX0_fittingEdges_14 rfl (lv_at hl 0 rfl) ?_
        refine lv_iload_n hx hb dX0_fittingEdges_15 rfl (lv_at hl 3 rfl) ?_
        refine zrdV (As := [.int (nI i)]) ⟨hx, hb, hml, hown, hts⟩ (kX0_isFitting l G a σ i (hO) (by omega)) (cwV 1 hts gX0_fittingEdges_X0_isFitting rfl rfl rfl (by decide +kernel) ⟨Nat.le_of_ble_eq_true rfl, Nat.le_of_ble_eq_true rfl⟩) hG (va_recv (q0 := 0) (ci := 0) hG.1 hP rfl rfl) (hP) rfl rfl hl.1 dX0_fittingEdges_16 (Nat.le_of_ble_eq_true rfl) ⟨Nat.le_of_ble_eq_true rfl, Nat.le_of_ble_eq_true rfl⟩ ?_
        refine lv_if_eq (tgt := 25) hx hb dX0_fittingEdges_19 (by decide) (fun h19 => ?_) (fun h19 => ?_)
        · skip
          have h19 : ¬ (fitP σ i) := (z_b0).mp h19
          refine lv_iinc (v := nI (i + 1)) (lv' := [(3, .int (nI (i + 1))), (0, .ref (a 0)), (1, .int (nI (nE σ))), (2, .int (nI xx))]) hx hb dX0_fittingEdges_25 hl (k := 3) rfl (zinc1 _) (by decide) rfl (fun ls hl => ?_)
          refine lv_goto (tgt := 9) hx hb dX0_fittingEdges_28 (by decide) ?_
          exact ih9 (i + 1) xx (by rw [sm, ← hxx]; try (simp [h11, h19] <;> omega)) (by omega) (by omega) _ (lv_sub hl [1, 2, 3, 0] rfl)
        · skip
          have h19 : ¬ (¬ (fitP σ i)) := fun q => h19 ((z_b0).mpr q)
          have h19 : fitP σ i := Decidable.of_not_not h19
          refine lv_iinc (v := nI (xx + 1)) (lv' := [(2, .int (nI (xx + 1))), (0, .ref (a 0)), (1, .int (nI (nE σ))), (3, .int (nI i))]) hx hb dX0_fittingEdges_22 hl (k := 2) rfl (zinc1 _) (by decide) rfl (fun ls hl => ?_)
          refine lv_iinc (v := nI (i + 1)) (lv' := [(3, .int (nI (i + 1))), (2, .int (nI (xx + 1))), (0, .ref (a 0)), (1, .int (nI (nE σ)))]) hx hb dX0_fittingEdges_25 hl (k := 3) rfl (zinc1 _) (by decide) rfl (fun ls hl => ?_)
          refine lv_goto (tgt := 9) hx hb dX0_fittingEdges_28 (by decide) ?_
          exact ih9 (i + 1) (xx + 1) (by rw [sm, ← hxx]; try (simp [h11, h19] <;> omega)) (by omega) (by omega) _ (lv_sub hl [2, 3, 1, 0] rfl)
  exact loop9 (nE σ + 1) 0 0 (rfl) (by omega) (by omega) _ (lv_sub hl [3, 2, 1, 0] rfl)
set_option maxHeartbeats 4000000 in
set_option maxRecDepth 100000 in
theorem kX4_bitsOf (l : Launch) (G : zG) (E T : Nat) (v : UInt32) (hv : v.toNat = E * 2 ^ 23 + T) (hE : 1 ≤ E) (hE2 : E ≤ 254) (hT : T < 2 ^ 23) : Met l yX4_bitsOf wsX4_bitsOf (zRm 0 0) (zPc G [.float v] (fun _ => True)) (zS (.int (nI v.toNat))) 0 0 (fun _ => False) := by
  refine zmkI (cc := cX4_bitsOf) (maxL := 4) (by decide) rfl (Nat.le_of_ble_eq_true rfl) ?_
  intro pr en st mi ar bl me cd ls Q hx hb hml hown hts hG hP hl hret
  have hown : st.vm.findClass RX4 = some mi.cls := hown
  have hl : lv_has ls 4 [(0, .float v)] := hl
  have hc267 := hts (.constantFloat RX4 267 (1258291200)) (by decide +kernel)
  refine lv_fload_n hx hb dX4_bitsOf_0 rfl (lv_at hl 0 rfl) ?_
  refine lv_fstore_n (lv' := [(1, .float v), (0, .float v)]) hx hb dX4_bitsOf_1 rfl hl (by decide) rfl (fun ls hl => ?_)
  refine lv_bipush (v := nI 127) hx hb dX4_bitsOf_2 (by decide) ?_
  refine lv_istore_n (lv' := [(2, .int (nI 127)), (1, .float v), (0, .float v)]) hx hb dX4_bitsOf_4 rfl hl (by decide) rfl (fun ls hl => ?_)
  refine lv_iconst (v := nI 0) hx hb dX4_bitsOf_5 (by decide) ?_
  refine lv_istore_n (lv' := [(3, .int (nI 0)), (2, .int (nI 127)), (1, .float v), (0, .float v)]) hx hb dX4_bitsOf_6 rfl hl (by decide) rfl (fun ls hl => ?_)
  have loop7 : ∀ (n : Nat) (i : Nat) (r : UInt32) (hr : r.toNat = (E - i) * 2 ^ 23 + T) (hi : i = 0 ∨ 127 ≤ E - i) (hiE : i < E) (hn : E < i + n) (ls : Array Slot) (hl : lv_has ls 4 [(0, .float v), (1, .float r), (2, .int (nI (127 + i))), (3, .int (nI i))]), W pr l en (zRm 0 0) st mi ar bl me cd st.heap [] 0 0 Q (F0 mi 7 ls []) := by
    intro n
    induction n with
    | zero => intro i r hr hi hiE hn ls hl; exfalso; omega
    | succ n ih7 =>
      intro i r hr hi hiE hn ls hl
      refine lv_iload_n hx hb dX4_bitsOf_7 rfl (lv_at hl 3 rfl) ?_
      refine lv_bipush (v := nI 127) hx hb dX4_bitsOf_8 (by decide) ?_
      refine lv_icmp_ge (tgt := 32) hx hb dX4_bitsOf_10 (by decide) (fun h10 => ?_) (fun h10 => ?_)
      · skip
        have h10 : 127 ≤ i := (nI_leI (by omega) (by omega)).mp h10
        have hEi : E - i ≤ 127 := by first | omega | (rw [z_two, hr] at h16; omega)
        refine lv_iconst (v := nI 0) hx hb dX4_bitsOf_32 (by decide) ?_
        refine lv_istore_n (lv' := [(3, .int (nI 0)), (0, .float v), (1, .float r), (2, .int (nI (127 + i)))]) hx hb dX4_bitsOf_33 rfl hl (by decide) rfl (fun ls hl => ?_)
        have loop34 : ∀ (n : Nat) (j : Nat) (r2 : UInt32) (hr2 : r2.toNat = (E - i + j) * 2 ^ 23 + T) (hj : j = 0 ∨ E - i + j ≤ 127) (hjk : j ≤ 126) (hn2 : 126 < j + n) (ls : Array Slot) (hl : lv_has ls 4 [(0, .float v), (1, .float r2), (2, .int (nI (127 + i - j))), (3, .int (nI j))]), W pr l en (zRm 0 0) st mi ar bl me cd st.heap [] 0 0 Q (F0 mi 34 ls []) := by
          intro n
          induction n with
          | zero => intro j r2 hr2 hj hjk hn2 ls hl; exfalso; omega
          | succ n ih34 =>
            intro j r2 hr2 hj hjk hn2 ls hl
            refine lv_iload_n hx hb dX4_bitsOf_34 rfl (lv_at hl 3 rfl) ?_
            refine lv_bipush (v := nI 126) hx hb dX4_bitsOf_35 (by decide) ?_
            refine lv_icmp_ge (tgt := 59) hx hb dX4_bitsOf_37 (by decide) (fun h37 => ?_) (fun h37 => ?_)
            · skip
              have h37 : 126 ≤ j := (nI_leI (by omega) (by omega)).mp h37
              have hEj : E - i + j = 127 := by first | omega | (rw [z_one, hr2] at h43; omega)
              have hrj : r2.toNat = 127 * 2 ^ 23 + T := by rw [hr2, hEj]
              have hfr := z_frac hT hrj
              refine lv_iload_n hx hb dX4_bitsOf_59 rfl (lv_at hl 2 rfl) ?_
              refine lv_bipush (v := nI 23) hx hb dX4_bitsOf_60 (by decide) ?_
              refine lv_ishl hx hb dX4_bitsOf_62 ?_
              refine lv_topi (nm_r (e' := nI ((127 + i - j) * 2 ^ 23)) (pk_shlN (nI 23 &&& 31) 23 (by decide) (by omega)) ?_)
              refine lv_fload_n hx hb dX4_bitsOf_63 rfl (lv_at hl 1 rfl) ?_
              refine lv_fconst1 hx hb dX4_bitsOf_64 ?_
              refine lv_fsub hx hb dX4_bitsOf_65 (hfr.1) ?_
              refine lv_ldcfw hx hb hown hc267 dX4_bitsOf_66 ?_
              refine lv_fmul hx hb dX4_bitsOf_69 (hfr.2.1) ?_
              refine lv_f2i hx hb dX4_bitsOf_70 ?_
              refine lv_topi (nm_r (e' := nI T) (hfr.2.2) ?_)
              refine lv_iadd hx hb dX4_bitsOf_71 ?_
              refine lv_topi (nm_r (e' := nI (((127 + i - j) * 2 ^ 23) + T)) (nI_add _ _) ?_)
              exact hret _ _ _ dX4_bitsOf_72 (congrArg nI (by rw [hv]; congr 2; omega))
            · skip
              have h37 : ¬ (126 ≤ j) := fun q => h37 ((nI_leI (by omega) (by omega)).mpr q)
              refine lv_fload_n hx hb dX4_bitsOf_40 rfl (lv_at hl 1 rfl) ?_
              refine lv_fconst1 hx hb dX4_bitsOf_41 ?_
              refine lv_fcmp hx hb dX4_bitsOf_42 ?_
              refine lv_if_ge (tgt := 59) hx hb dX4_bitsOf_43 (by decide) (fun h43 => ?_) (fun h43 => ?_)
              · skip
                have h43 : FP.fconst1.toNat ≤ r2.toNat := (z_fge (by rw [hr2]; omega) (by rw [z_one]; decide)).mp h43
                have hEj : E - i + j = 127 := by first | omega | (rw [z_one, hr2] at h43; omega)
                have hrj : r2.toNat = 127 * 2 ^ 23 + T := by rw [hr2, hEj]
                have hfr := z_frac hT hrj
                refine lv_iload_n hx hb dX4_bitsOf_59 rfl (lv_at hl 2 rfl) ?_
                refine lv_bipush (v := nI 23) hx hb dX4_bitsOf_60 (by decide) ?_
                refine lv_ishl hx hb dX4_bitsOf_62 ?_
                refine lv_topi (nm_r (e' := nI ((127 + i - j) * 2 ^ 23)) (pk_shlN (nI 23 &&& 31) 23 (by decide) (by omega)) ?_)
                refine lv_fload_n hx hb dX4_bitsOf_63 rfl (lv_at hl 1 rfl) ?_
                refine lv_fconst1 hx hb dX4_bitsOf_64 ?_
                refine lv_fsub hx hb dX4_bitsOf_65 (hfr.1) ?_
                refine lv_ldcfw hx hb hown hc267 dX4_bitsOf_66 ?_
                refine lv_fmul hx hb dX4_bitsOf_69 (hfr.2.1) ?_
                refine lv_f2i hx hb dX4_bitsOf_70 ?_
                refine lv_topi (nm_r (e' := nI T) (hfr.2.2) ?_)
                refine lv_iadd hx hb dX4_bitsOf_71 ?_
                refine lv_topi (nm_r (e' := nI (((127 + i - j) * 2 ^ 23) + T)) (nI_add _ _) ?_)
                exact hret _ _ _ dX4_bitsOf_72 (congrArg nI (by rw [hv]; congr 2; omega))
              · skip
                have h43 : ¬ (FP.fconst1.toNat ≤ r2.toNat) := fun q => h43 ((z_fge (by rw [hr2]; omega) (by rw [z_one]; decide)).mpr q)
                have hEj2 : E - i + j ≤ 126 := by rw [z_one, hr2] at h43; omega
                refine lv_fload_n hx hb dX4_bitsOf_46 rfl (lv_at hl 1 rfl) ?_
                refine lv_fconst2 hx hb dX4_bitsOf_47 ?_
                refine lv_fmul hx hb dX4_bitsOf_48 (vf_of_lt (by rw [z_dbl (by omega) (by rw [z_one, hr2] at h43; omega) hT hr2]; rw [z_one, hr2] at h43; omega)) ?_
                refine lv_fstore_n (lv' := [(1, .float (FP.fmul r2 FP.fconst2)), (0, .float v), (2, .int (nI (127 + i - j))), (3, .int (nI j))]) hx hb dX4_bitsOf_49 rfl hl (by decide) rfl (fun ls hl => ?_)
                refine lv_iinc (v := nI (127 + i - (j + 1))) (lv' := [(2, .int (nI (127 + i - (j + 1)))), (1, .float (FP.fmul r2 FP.fconst2)), (0, .float v), (3, .int (nI j))]) hx hb dX4_bitsOf_50 hl (k := 2) rfl (zdec2 (by omega)) (by decide) rfl (fun ls hl => ?_)
                refine lv_iinc (v := nI (j + 1)) (lv' := [(3, .int (nI (j + 1))), (2, .int (nI (127 + i - (j + 1)))), (1, .float (FP.fmul r2 FP.fconst2)), (0, .float v)]) hx hb dX4_bitsOf_53 hl (k := 3) rfl (zinc1 _) (by decide) rfl (fun ls hl => ?_)
                refine lv_goto (tgt := 34) hx hb dX4_bitsOf_56 (by decide) ?_
                exact ih34 (j + 1) (FP.fmul r2 FP.fconst2) (by rw [z_dbl (by omega) (by omega) hT hr2]; congr 2) (by omega) (by omega) (by omega) _ (lv_sub hl [3, 2, 1, 0] rfl)
        exact loop34 127 0 r (by rw [hr]; rfl) (by omega) (by omega) (by omega) _ (lv_sub hl [1, 2, 3, 0] rfl)
      · skip
        have h10 : ¬ (127 ≤ i) := fun q => h10 ((nI_leI (by omega) (by omega)).mpr q)
        refine lv_fload_n hx hb dX4_bitsOf_13 rfl (lv_at hl 1 rfl) ?_
        refine lv_fconst2 hx hb dX4_bitsOf_14 ?_
        refine lv_fcmp hx hb dX4_bitsOf_15 ?_
        refine lv_if_lt (tgt := 32) hx hb dX4_bitsOf_16 (by decide) (fun h16 => ?_) (fun h16 => ?_)
        · skip
          have h16 : r.toNat < FP.fconst2.toNat := (z_flt (by rw [hr]; omega) (by rw [z_two]; decide)).mp h16
          have hEi : E - i ≤ 127 := by first | omega | (rw [z_two, hr] at h16; omega)
          refine lv_iconst (v := nI 0) hx hb dX4_bitsOf_32 (by decide) ?_
          refine lv_istore_n (lv' := [(3, .int (nI 0)), (0, .float v), (1, .float r), (2, .int (nI (127 + i)))]) hx hb dX4_bitsOf_33 rfl hl (by decide) rfl (fun ls hl => ?_)
          have loop34 : ∀ (n : Nat) (j : Nat) (r2 : UInt32) (hr2 : r2.toNat = (E - i + j) * 2 ^ 23 + T) (hj : j = 0 ∨ E - i + j ≤ 127) (hjk : j ≤ 126) (hn2 : 126 < j + n) (ls : Array Slot) (hl : lv_has ls 4 [(0, .float v), (1, .float r2), (2, .int (nI (127 + i - j))), (3, .int (nI j))]), W pr l en (zRm 0 0) st mi ar bl me cd st.heap [] 0 0 Q (F0 mi 34 ls []) := by
            intro n
            induction n with
            | zero => intro j r2 hr2 hj hjk hn2 ls hl; exfalso; omega
            | succ n ih34 =>
              intro j r2 hr2 hj hjk hn2 ls hl
              refine lv_iload_n hx hb dX4_bitsOf_34 rfl (lv_at hl 3 rfl) ?_
              refine lv_bipush (v := nI 126) hx hb dX4_bitsOf_35 (by decide) ?_
              refine lv_icmp_ge (tgt := 59) hx hb dX4_bitsOf_37 (by decide) (fun h37 => ?_) (fun h37 => ?_)
              · skip
                have h37 : 126 ≤ j := (nI_leI (by omega) (by omega)).mp h37
                have hEj : E - i + j = 127 := by first | omega | (rw [z_one, hr2] at h43; omega)
                have hrj : r2.toNat = 127 * 2 ^ 23 + T := by rw [hr2, hEj]
                have hfr := z_frac hT hrj
                refine lv_iload_n hx hb dX4_bitsOf_59 rfl (lv_at hl 2 rfl) ?_
                refine lv_bipush (v := nI 23) hx hb dX4_bitsOf_60 (by decide) ?_
                refine lv_ishl hx hb dX4_bitsOf_62 ?_
                refine lv_topi (nm_r (e' := nI ((127 + i - j) * 2 ^ 23)) (pk_shlN (nI 23 &&& 31) 23 (by decide) (by omega)) ?_)
                refine lv_fload_n hx hb dX4_bitsOf_63 rfl (lv_at hl 1 rfl) ?_
                refine lv_fconst1 hx hb dX4_bitsOf_64 ?_
                refine lv_fsub hx hb dX4_bitsOf_65 (hfr.1) ?_
                refine lv_ldcfw hx hb hown hc267 dX4_bitsOf_66 ?_
                refine lv_fmul hx hb dX4_bitsOf_69 (hfr.2.1) ?_
                refine lv_f2i hx hb dX4_bitsOf_70 ?_
                refine lv_topi (nm_r (e' := nI T) (hfr.2.2) ?_)
                refine lv_iadd hx hb dX4_bitsOf_71 ?_
                refine lv_topi (nm_r (e' := nI (((127 + i - j) * 2 ^ 23) + T)) (nI_add _ _) ?_)
                exact hret _ _ _ dX4_bitsOf_72 (congrArg nI (by rw [hv]; congr 2; omega))
              · skip
                have h37 : ¬ (126 ≤ j) := fun q => h37 ((nI_leI (by omega) (by omega)).mpr q)
                refine lv_fload_n hx hb dX4_bitsOf_40 rfl (lv_at hl 1 rfl) ?_
                refine lv_fconst1 hx hb dX4_bitsOf_41 ?_
                refine lv_fcmp hx hb dX4_bitsOf_42 ?_
                refine lv_if_ge (tgt := 59) hx hb dX4_bitsOf_43 (by decide) (fun h43 => ?_) (fun h43 => ?_)
                · skip
                  have h43 : FP.fconst1.toNat ≤ r2.toNat := (z_fge (by rw [hr2]; omega) (by rw [z_one]; decide)).mp h43
                  have hEj : E - i + j = 127 := by first | omega | (rw [z_one, hr2] at h43; omega)
                  have hrj : r2.toNat = 127 * 2 ^ 23 + T := by rw [hr2, hEj]
                  have hfr := z_frac hT hrj
                  refine lv_iload_n hx hb dX4_bitsOf_59 rfl (lv_at hl 2 rfl) ?_
                  refine lv_bipush (v := nI 23) hx hb dX4_bitsOf_60 (by decide) ?_
                  refine lv_ishl hx hb dX4_bitsOf_62 ?_
                  refine lv_topi (nm_r (e' := nI ((127 + i - j) * 2 ^ 23)) (pk_shlN (nI 23 &&& 31) 23 (by decide) (by omega)) ?_)
                  refine lv_fload_n hx hb dX4_bitsOf_63 rfl (lv_at hl 1 rfl) ?_
                  refine lv_fconst1 hx hb dX4_bitsOf_64 ?_
                  refine lv_fsub hx hb dX4_bitsOf_65 (hfr.1) ?_
                  refine lv_ldcfw hx hb hown hc267 dX4_bitsOf_66 ?_
                  refine lv_fmul hx hb dX4_bitsOf_69 (hfr.2.1) ?_
                  refine lv_f2i hx hb dX4_bitsOf_70 ?_
                  refine lv_topi (nm_r (e' := nI T) (hfr.2.2) ?_)
                  refine lv_iadd hx hb dX4_bitsOf_71 ?_
                  refine lv_topi (nm_r (e' := nI (((127 + i - j) * 2 ^ 23) + T)) (nI_add _ _) ?_)
                  exact hret _ _ _ dX4_bitsOf_72 (congrArg nI (by rw [hv]; congr 2; omega))
                · skip
                  have h43 : ¬ (FP.fconst1.toNat ≤ r2.toNat) := fun q => h43 ((z_fge (by rw [hr2]; omega) (by rw [z_one]; decide)).mpr q)
                  have hEj2 : E - i + j ≤ 126 := by rw [z_one, hr2] at h43; omega
                  refine lv_fload_n hx hb dX4_bitsOf_46 rfl (lv_at hl 1 rfl) ?_
                  refine lv_fconst2 hx hb dX4_bitsOf_47 ?_
                  refine lv_fmul hx hb dX4_bitsOf_48 (vf_of_lt (by rw [z_dbl (by omega) (by rw [z_one, hr2] at h43; omega) hT hr2]; rw [z_one, hr2] at h43; omega)) ?_
                  refine lv_fstore_n (lv' := [(1, .float (FP.fmul r2 FP.fconst2)), (0, .float v), (2, .int (nI (127 + i - j))), (3, .int (nI j))]) hx hb dX4_bitsOf_49 rfl hl (by decide) rfl (fun ls hl => ?_)
                  refine lv_iinc (v := nI (127 + i - (j + 1))) (lv' := [(2, .int (nI (127 + i - (j + 1)))), (1, .float (FP.fmul r2 FP.fconst2)), (0, .float v), (3, .int (nI j))]) hx hb dX4_bitsOf_50 hl (k := 2) rfl (zdec2 (by omega)) (by decide) rfl (fun ls hl => ?_)
                  refine lv_iinc (v := nI (j + 1)) (lv' := [(3, .int (nI (j + 1))), (2, .int (nI (127 + i - (j + 1)))), (1, .float (FP.fmul r2 FP.fconst2)), (0, .float v)]) hx hb dX4_bitsOf_53 hl (k := 3) rfl (zinc1 _) (by decide) rfl (fun ls hl => ?_)
                  refine lv_goto (tgt := 34) hx hb dX4_bitsOf_56 (by decide) ?_
                  exact ih34 (j + 1) (FP.fmul r2 FP.fconst2) (by rw [z_dbl (by omega) (by omega) hT hr2]; congr 2) (by omega) (by omega) (by omega) _ (lv_sub hl [3, 2, 1, 0] rfl)
          exact loop34 127 0 r (by rw [hr]; rfl) (by omega) (by omega) (by omega) _ (lv_sub hl [1, 2, 3, 0] rfl)
        · skip
          have h16 : ¬ (r.toNat < FP.fconst2.toNat) := fun q => h16 ((z_flt (by rw [hr]; omega) (by rw [z_two]; decide)).mpr q)
          have hEi2 : 128 ≤ E - i := by rw [z_two, hr] at h16; omega
          refine lv_fload_n hx hb dX4_bitsOf_19 rfl (lv_at hl 1 rfl) ?_
          refine lv_fconst2 hx hb dX4_bitsOf_20 ?_
          refine lv_fdiv hx hb dX4_bitsOf_21 (vf_of_lt (by rw [z_half (by rw [z_two, hr] at h16; omega) (by omega) hT hr]; omega)) ?_
          refine lv_fstore_n (lv' := [(1, .float (FP.fdiv r FP.fconst2)), (0, .float v), (2, .int (nI (127 + i))), (3, .int (nI i))]) hx hb dX4_bitsOf_22 rfl hl (by decide) rfl (fun ls hl => ?_)
          refine lv_iinc (v := nI (127 + i + 1)) (lv' := [(2, .int (nI (127 + i + 1))), (1, .float (FP.fdiv r FP.fconst2)), (0, .float v), (3, .int (nI i))]) hx hb dX4_bitsOf_23 hl (k := 2) rfl (zinc1 _) (by decide) rfl (fun ls hl => ?_)
          refine lv_iinc (v := nI (i + 1)) (lv' := [(3, .int (nI (i + 1))), (2, .int (nI (127 + i + 1))), (1, .float (FP.fdiv r FP.fconst2)), (0, .float v)]) hx hb dX4_bitsOf_26 hl (k := 3) rfl (zinc1 _) (by decide) rfl (fun ls hl => ?_)
          refine lv_goto (tgt := 7) hx hb dX4_bitsOf_29 (by decide) ?_
          exact ih7 (i + 1) (FP.fdiv r FP.fconst2) (by rw [z_half (by omega) (by omega) hT hr]; congr 2) (by omega) (by omega) (by omega) _ (lv_sub hl [3, 2, 1, 0] rfl)
  exact loop7 (E + 1) 0 v (by omega) (by omega) (by omega) (by omega) _ (lv_sub hl [3, 2, 1, 0] rfl)
