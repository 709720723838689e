set_option maxHeartbeats 8000000 in
set_option maxRecDepth 100000 in
theorem kL_low (l : Launch) (G : zG) (x : Int32) (n : Nat) (hn : 0 < n) (hn2 : n < 2 ^ 31) : Met l yL_low wsL_low (zRm 0 0) (zPc G [.int x, .int (nI n)] (fun _ => True)) (zS (.int (nI (lowN x n)))) 0 0 (fun _ => False) := by
  refine zmkI (cc := cL_low) (maxL := 2) (by decide) rfl (Nat.le_of_ble_eq_true rfl) ?_
  intro pr en st mi ar bl me cd ls Q hx hb hml hown hts hG hP hl hret
  have hown : st.vm.findClass RL = some mi.cls := hown
  have hl : lv_has ls 2 [(0, .int x), (1, .int (nI n))] := hl
  have hc8 := hts (.constant RL 8 (2147483647)) (List.mem_cons_of_mem _ List.mem_cons_self)
  refine lv_iload_n hx hb dL_low_0 rfl (lv_at hl 0 rfl) ?_
  refine lv_ldc hx hb hown hc8 dL_low_1 ?_
  refine lv_topi (nm_r (e' := nI 2147483647) rfl ?_)
  refine lv_iand hx hb dL_low_3 ?_
  refine lv_topi (nm_r (e' := (nI (x.toBitVec.toNat % 2147483648))) (pk_and x 31 (by decide +kernel)) ?_)
  refine lv_iload_n hx hb dL_low_4 rfl (lv_at hl 1 rfl) ?_
  refine lv_irem hx hb dL_low_5 (nI_ne0 (by omega) (by omega)) ?_
  refine lv_topi (nm_r (e' := nI ((x.toBitVec.toNat % 2147483648) % n)) (pk_rem (by omega) (by omega) (by omega)) ?_)
  exact hret _ _ _ dL_low_6 (rfl)
set_option maxHeartbeats 8000000 in
set_option maxRecDepth 100000 in
theorem kL_power (l : Launch) (G : zG) (B n : Nat) (hB1 : 1 ≤ B) (hB2 : B ≤ 11) (hn : n ≤ 10) : Met l yL_power wsL_power (zRm 0 0) (zPc G [.int (nI B), .int (nI n)] (fun _ => True)) (zS (.long (lN (B ^ n)))) 0 0 (fun _ => False) := by
  refine zmkL (cc := cL_power) (maxL := 5) (by decide) rfl (Nat.le_of_ble_eq_true rfl) ?_
  intro pr en st mi ar bl me cd ls Q hx hb hml hown hts hG hP hl hret
  have hown : st.vm.findClass RL = some mi.cls := hown
  have hl : lv_has ls 5 [(0, .int (nI B)), (1, .int (nI n))] := hl
  refine lv_lconst (v := lN 1) hx hb dL_power_0 rfl ?_
  refine lv_lstore_n (lv' := [(2, .long (lN 1)), (0, .int (nI B)), (1, .int (nI n))]) hx hb dL_power_1 rfl hl (by decide) rfl (fun ls hl => ?_)
  refine lv_iconst (v := nI 0) hx hb dL_power_2 (by decide) ?_
  refine lv_istore (lv' := [(4, .int (nI 0)), (2, .long (lN 1)), (0, .int (nI B)), (1, .int (nI n))]) hx hb dL_power_3 hl (by decide) rfl (fun ls hl => ?_)
  have loop5 : ∀ (m : Nat) (k : Nat) (y : Nat) (hy : y = B ^ k) (hk : k ≤ n) (hm : n < k + m) (ls : Array Slot) (hl : lv_has ls 5 [(0, .int (nI B)), (1, .int (nI n)), (2, .long (lN y)), (4, .int (nI k))]), W pr l en (zRm 0 0) st mi ar bl me cd st.heap [] 0 0 Q (F0 mi 5 ls []) := by
    intro m
    induction m with
    | zero => intro k y hy hk hm ls hl; exfalso; omega
    | succ m ih5 =>
      intro k y hy hk hm ls hl
      refine lv_iload hx hb dL_power_5 (lv_at hl 3 rfl) ?_
      refine lv_iload_n hx hb dL_power_7 rfl (lv_at hl 1 rfl) ?_
      refine lv_icmp_ge (tgt := 22) hx hb dL_power_8 (by decide) (fun h8 => ?_) (fun h8 => ?_)
      · skip
        have h8 : n ≤ k := (nI_leI (by omega) (by omega)).mp h8
        refine lv_lload_n hx hb dL_power_22 rfl (lv_at hl 2 rfl) ?_
        exact hret _ _ _ dL_power_23 (by obtain rfl : k = n := (by omega); rw [hy])
      · skip
        have h8 : ¬ (n ≤ k) := fun q => h8 ((nI_leI (by omega) (by omega)).mpr q)
        refine lv_lload_n hx hb dL_power_11 rfl (lv_at hl 2 rfl) ?_
        refine lv_iload_n hx hb dL_power_12 rfl (lv_at hl 0 rfl) ?_
        refine lv_i2l (v := lN B) hx hb dL_power_13 (nI_l (by omega)) ?_
        refine lv_lmul hx hb dL_power_14 ?_
        refine lv_topl (nm_r (e' := lN (y * B)) (lN_mul _ _) ?_)
        refine lv_lstore_n (lv' := [(2, .long (lN (y * B))), (0, .int (nI B)), (1, .int (nI n)), (4, .int (nI k))]) hx hb dL_power_15 rfl hl (by decide) rfl (fun ls hl => ?_)
        refine lv_iinc (v := nI (k + 1)) (lv' := [(4, .int (nI (k + 1))), (2, .long (lN (y * B))), (0, .int (nI B)), (1, .int (nI n))]) hx hb dL_power_16 hl (k := 3) rfl (zinc1 _) (by decide) rfl (fun ls hl => ?_)
        refine lv_goto (tgt := 5) hx hb dL_power_19 (by decide) ?_
        exact ih5 (k + 1) (y * B) (by rw [hy, Nat.pow_succ]) (by omega) (by omega) _ (lv_sub hl [2, 3, 1, 0] rfl)
  exact loop5 (n + 1) 0 1 (rfl) (by omega) (by omega) _ (lv_sub hl [2, 3, 1, 0] rfl)
set_option maxHeartbeats 8000000 in
set_option maxRecDepth 100000 in
theorem kL_digit (l : Launch) (G : zG) (v B p : Nat) (hv : v < 2 ^ 62) (hB1 : 1 ≤ B) (hB2 : B ≤ 11) (hp : p ≤ 10) : Met l yL_digit wsL_digit (zRm 1 24) (zPc G [.long (lN v), .int (nI B), .int (nI p)] (fun _ => True)) (zS (.int (nI (v / B ^ p % B)))) 0 0 (fun _ => False) := by
  refine zmkI (cc := cL_digit) (maxL := 4) (by decide) rfl (Nat.le_of_ble_eq_true rfl) ?_
  intro pr en st mi ar bl me cd ls Q hx hb hml hown hts hG hP hl hret
  have hown : st.vm.findClass RL = some mi.cls := hown
  have hl : lv_has ls 4 [(0, .long (lN v)), (2, .int (nI B)), (3, .int (nI p))] := hl
  have hpw := pB_lt hB1 hB2 hp
  have hdv := Nat.div_le_self v (B ^ p)
  refine lv_lload_n hx hb dL_digit_0 rfl (lv_at hl 0 rfl) ?_
  refine lv_iload_n hx hb dL_digit_1 rfl (lv_at hl 1 rfl) ?_
  refine lv_iload_n hx hb dL_digit_2 rfl (lv_at hl 2 rfl) ?_
  refine zrdS (As := [.int (nI B), .int (nI p)]) ⟨hx, hb, hml, hown, hts⟩ (kL_power l G  B p (by omega) (by omega) (by omega)) (va_cwS 2 hts gL_digit_L_power rfl rfl rfl (by decide +kernel) ⟨Nat.le_of_ble_eq_true rfl, Nat.le_of_ble_eq_true rfl⟩) hG (trivial) rfl rfl hl.1 dL_digit_3 (Nat.le_of_ble_eq_true rfl) ⟨Nat.le_of_ble_eq_true rfl, Nat.le_of_ble_eq_true rfl⟩ ?_
  refine lv_ldiv hx hb dL_digit_6 (fun z => absurd ((pk_lEQ (a := (B ^ p)) (b := 0) (by omega) (by omega)).mp z) (by omega)) ?_
  refine lv_topl (nm_r (e' := lN (v / (B ^ p))) (pk_lDiv (by omega) (by omega) (by omega)) ?_)
  refine lv_iload_n hx hb dL_digit_7 rfl (lv_at hl 1 rfl) ?_
  refine lv_i2l (v := lN B) hx hb dL_digit_8 (nI_l (by omega)) ?_
  refine lv_lrem hx hb dL_digit_9 (fun z => absurd ((pk_lEQ (a := B) (b := 0) (by omega) (by omega)).mp z) (by omega)) ?_
  refine lv_topl (nm_r (e' := lN ((v / (B ^ p)) % B)) (pk_lRem (by omega) (by omega) (by omega)) ?_)
  refine lv_l2i (v := nI ((v / (B ^ p)) % B)) hx hb dL_digit_10 (lN_i _) ?_
  exact hret _ _ _ dL_digit_11 (rfl)
set_option maxHeartbeats 8000000 in
set_option maxRecDepth 100000 in
theorem kL_means (l : Launch) (G : zG) (q : Nat → Nat) (σ : Nat → Nat) {N : Nat} (k d p : Nat) (hO : Ok N σ) (hk : k < 6) (hd4 : d < 4) (hp : p < 10) : Met l yL_means wsL_means (zRm 2 47) (zPc G [.ref (q 2), .ref (q 3), .int (nI k), .int (nI d), .int (nI p)] (va_P G.1 vwCl (wL G q σ))) (zS (.int (nI (mns σ k d p)))) 0 0 (fun _ => False) := by
  refine zmkI (cc := cL_means) (maxL := 6) (by decide) rfl (Nat.le_of_ble_eq_true rfl) ?_
  intro pr en st mi ar bl me cd ls Q hx hb hml hown hts hG hP hl hret
  have hown : st.vm.findClass RL = some mi.cls := hown
  have hl : lv_has ls 6 [(0, .ref (q 2)), (1, .ref (q 3)), (2, .int (nI k)), (3, .int (nI d)), (4, .int (nI p))] := hl
  have hP : va_P G.1 vwCl (wL G q σ) st.heap := hP
  have hc := hO.c
  have hs := hO.lS
  have hne := hO.lE
  have hsg := hO.sg (show k < 36 by omega) hd4 hp
  have hal := aN_lt hO (show k < 36 by omega) hd4
  have hbl := bN_lt hO (show k < 36 by omega)
  refine lv_aload_n hx hb dL_means_0 rfl (lv_at hl 0 rfl) ?_
  refine lv_iconst (v := nI 4) hx hb dL_means_1 (by decide) ?_
  refine lv_iload_n hx hb dL_means_2 rfl (lv_at hl 2 rfl) ?_
  refine lv_imul hx hb dL_means_3 ?_
  refine lv_topi (nm_r (e' := nI (4 * k)) (pk_mul _ _) ?_)
  refine lv_iload_n hx hb dL_means_4 rfl (lv_at hl 3 rfl) ?_
  refine lv_iadd hx hb dL_means_5 ?_
  refine lv_topi (nm_r (e' := nI ((4 * k) + d)) (nI_add _ _) ?_)
  refine va_lald hx hb hG.1 hP 2 3 rfl rfl (vp_in_nI (n := (4 * k) + d) (N := 24) (by omega) (by omega)) dL_means_6 ?_
  refine lv_topl (nm_r (e' := (lN (aN σ k d))) (by rw [nI_clamp (by omega)]; exact aF_at σ (by omega)) ?_)
  refine lv_bipush (v := nI 11) hx hb dL_means_7 (by decide) ?_
  refine lv_iload hx hb dL_means_9 (lv_at hl 4 rfl) ?_
  refine zrdS (As := [.long (lN (aN σ k d)), .int (nI 11), .int (nI p)]) ⟨hx, hb, hml, hown, hts⟩ (kL_digit l G  (aN σ k d) 11 p (by omega) (by omega) (by omega) (by omega)) (va_cwS 3 hts gL_means_L_digit rfl rfl rfl (by decide +kernel) ⟨Nat.le_of_ble_eq_true rfl, Nat.le_of_ble_eq_true rfl⟩) hG (trivial) rfl rfl hl.1 dL_means_11 (Nat.le_of_ble_eq_true rfl) ⟨Nat.le_of_ble_eq_true rfl, Nat.le_of_ble_eq_true rfl⟩ ?_
  refine lv_topi (nm_r (e' := (nI (sgn σ k d p))) (congrArg nI (aN_dg hO (by omega) hd4 hp)) ?_)
  refine lv_istore (lv' := [(5, .int (nI (sgn σ k d p))), (0, .ref (q 2)), (1, .ref (q 3)), (2, .int (nI k)), (3, .int (nI d)), (4, .int (nI p))]) hx hb dL_means_14 hl (by decide) rfl (fun ls hl => ?_)
  refine lv_iload hx hb dL_means_16 (lv_at hl 0 rfl) ?_
  refine lv_bipush (v := nI 10) hx hb dL_means_18 (by decide) ?_
  refine lv_icmp_ne (tgt := 28) hx hb dL_means_20 (by decide) (fun h20 => ?_) (fun h20 => ?_)
  · skip
    have h20 : ¬ ((sgn σ k d p) = 10) := fun q => h20 ((nI_eq (by omega) (by omega)).mpr q)
    refine lv_aload_n hx hb dL_means_28 rfl (lv_at hl 2 rfl) ?_
    refine lv_iload_n hx hb dL_means_29 rfl (lv_at hl 3 rfl) ?_
    refine va_lald hx hb hG.1 hP 3 3 rfl rfl (vp_in_nI (n := k) (N := 6) (by omega) (by omega)) dL_means_30 ?_
    refine lv_topl (nm_r (e' := (lN (bN σ k))) (by rw [nI_clamp (by omega)]; rfl) ?_)
    refine lv_bipush (v := nI 10) hx hb dL_means_31 (by decide) ?_
    refine lv_iload hx hb dL_means_33 (lv_at hl 0 rfl) ?_
    refine zrdS (As := [.long (lN (bN σ k)), .int (nI 10), .int (nI (sgn σ k d p))]) ⟨hx, hb, hml, hown, hts⟩ (kL_digit l G  (bN σ k) 10 (sgn σ k d p) (by omega) (by omega) (by omega) (by omega)) (va_cwS 3 hts gL_means_L_digit rfl rfl rfl (by decide +kernel) ⟨Nat.le_of_ble_eq_true rfl, Nat.le_of_ble_eq_true rfl⟩) hG (trivial) rfl rfl hl.1 dL_means_35 (Nat.le_of_ble_eq_true rfl) ⟨Nat.le_of_ble_eq_true rfl, Nat.le_of_ble_eq_true rfl⟩ ?_
    refine lv_topi (nm_r (e' := (nI (mng σ k (sgn σ k d p)))) (congrArg nI (bN_dg hO (by omega) (by omega))) ?_)
    exact hret _ _ _ dL_means_38 (by unfold mns; rw [if_neg h20])
  · skip
    have h20 : (sgn σ k d p) = 10 := (nI_eq (by omega) (by omega)).mp h20
    refine lv_bipush (v := nI 10) hx hb dL_means_23 (by decide) ?_
    refine lv_goto (tgt := 38) hx hb dL_means_25 (by decide) ?_
    exact hret _ _ _ dL_means_38 (by unfold mns; rw [if_pos h20])
set_option maxHeartbeats 8000000 in
set_option maxRecDepth 100000 in
theorem kL_edge (l : Launch) (G : zG) (q : Nat → Nat) (σ : Nat → Nat) {N : Nat} (e : Nat) (hO : Ok N σ) (hM : Sml σ) (he : e ≤ 7) : Met l yL_edge wsL_edge (zRm 0 0) (zPc G [.ref (q 0), .int (nI e)] (va_P G.1 vwCl (wL G q σ))) (zS (.int (eL σ e))) 0 0 (fun _ => False) := by
  refine zmkI (cc := cL_edge) (maxL := 7) (by decide) rfl (Nat.le_of_ble_eq_true rfl) ?_
  intro pr en st mi ar bl me cd ls Q hx hb hml hown hts hG hP hl hret
  have hown : st.vm.findClass RL = some mi.cls := hown
  have hl : lv_has ls 7 [(0, .ref (q 0)), (1, .int (nI e))] := hl
  have hP : va_P G.1 vwCl (wL G q σ) st.heap := hP
  have hc := hO.c
  have hs := hO.lS
  have hne := hO.lE
  have hM6 := hM.s
  have hM7 := hM.e
  have hM4 := hM.r
  have hM1 := hM.1
  have hM2 := hM.2
  refine lv_iload_n hx hb dL_edge_0 rfl (lv_at hl 1 rfl) ?_
  refine lv_istore_n (lv' := [(2, .int (nI e)), (0, .ref (q 0)), (1, .int (nI e))]) hx hb dL_edge_1 rfl hl (by decide) rfl (fun ls hl => ?_)
  refine lv_iconst (v := nI 0) hx hb dL_edge_2 (by decide) ?_
  refine lv_istore_n (lv' := [(3, .int (nI 0)), (2, .int (nI e)), (0, .ref (q 0)), (1, .int (nI e))]) hx hb dL_edge_3 rfl hl (by decide) rfl (fun ls hl => ?_)
  have loop4 : ∀ (m : Nat) (y : Nat) (k : Nat) (hy : y + gCn (σ 0) (σ 1) k = e) (hk : k ≤ 2 * nS σ) (hm : 2 * nS σ < k + m) (ls : Array Slot) (hl : lv_has ls 7 [(0, .ref (q 0)), (1, .int (nI e)), (2, .int (nI y)), (3, .int (nI k))]), W pr l en (zRm 0 0) st mi ar bl me cd st.heap [] 0 0 Q (F0 mi 4 ls []) := by
    intro m
    induction m with
    | zero => intro y k hy hk hm ls hl; exfalso; omega
    | succ m ih4 =>
      intro y k hy hk hm ls hl
      have hkm := Nat.mod_lt k (show 0 < nS σ by omega)
      have hq1 := Nat.mod_le (k % nS σ) (σ 0)
      have hq2 := Nat.div_le_self (k % nS σ) (σ 0)
      refine lv_iload_n hx hb dL_edge_4 rfl (lv_at hl 3 rfl) ?_
      refine lv_iconst (v := nI 2) hx hb dL_edge_5 (by decide) ?_
      refine lv_aload_n hx hb dL_edge_6 rfl (lv_at hl 0 rfl) ?_
      refine lv_iconst (v := nI 0) hx hb dL_edge_7 (by decide) ?_
      refine va_iald hx hb hG.1 hP 0 0 rfl rfl (vp_in_nI (n := 0) (N := 5) (by omega) (by omega)) dL_edge_8 ?_
      refine lv_topi (nm_r (e' := nI (σ 0)) (by rw [nI_clamp (by omega)]; exact if_neg (by omega)) ?_)
      refine lv_imul hx hb dL_edge_9 ?_
      refine lv_topi (nm_r (e' := nI (2 * (σ 0))) (pk_mul _ _) ?_)
      refine lv_aload_n hx hb dL_edge_10 rfl (lv_at hl 0 rfl) ?_
      refine lv_iconst (v := nI 1) hx hb dL_edge_11 (by decide) ?_
      refine va_iald hx hb hG.1 hP 0 0 rfl rfl (vp_in_nI (n := 1) (N := 5) (by omega) (by omega)) dL_edge_12 ?_
      refine lv_topi (nm_r (e' := nI (σ 1)) (by rw [nI_clamp (by omega)]; exact if_neg (by omega)) ?_)
      refine lv_imul hx hb dL_edge_13 ?_
      refine lv_topi (nm_r (e' := nI ((2 * (σ 0)) * (σ 1))) (pk_mul _ _) ?_)
      refine lv_topi (nm_r (e' := (nI (2 * nS σ))) (congrArg nI (Nat.mul_assoc 2 (σ 0) (σ 1))) ?_)
      refine lv_icmp_ge (tgt := 133) hx hb dL_edge_14 (by decide) (fun h14 => ?_) (fun h14 => ?_)
      · skip
        have h14 : (2 * nS σ) ≤ k := (nI_leI (by omega) (by omega)).mp h14
        refine lv_iconst (v := (-1)) hx hb dL_edge_133 (by decide) ?_
        exact hret _ _ _ dL_edge_134 (by have hz := its_end hO hM; obtain rfl : k = 2 * nS σ := (by omega); rw [eL_out (by omega)])
      · skip
        have h14 : ¬ ((2 * nS σ) ≤ k) := fun q => h14 ((nI_leI (by omega) (by omega)).mpr q)
        refine lv_iload_n hx hb dL_edge_17 rfl (lv_at hl 3 rfl) ?_
        refine lv_aload_n hx hb dL_edge_18 rfl (lv_at hl 0 rfl) ?_
        refine lv_iconst (v := nI 0) hx hb dL_edge_19 (by decide) ?_
        refine va_iald hx hb hG.1 hP 0 0 rfl rfl (vp_in_nI (n := 0) (N := 5) (by omega) (by omega)) dL_edge_20 ?_
        refine lv_topi (nm_r (e' := nI (σ 0)) (by rw [nI_clamp (by omega)]; exact if_neg (by omega)) ?_)
        refine lv_aload_n hx hb dL_edge_21 rfl (lv_at hl 0 rfl) ?_
        refine lv_iconst (v := nI 1) hx hb dL_edge_22 (by decide) ?_
        refine va_iald hx hb hG.1 hP 0 0 rfl rfl (vp_in_nI (n := 1) (N := 5) (by omega) (by omega)) dL_edge_23 ?_
        refine lv_topi (nm_r (e' := nI (σ 1)) (by rw [nI_clamp (by omega)]; exact if_neg (by omega)) ?_)
        refine lv_imul hx hb dL_edge_24 ?_
        refine lv_topi (nm_r (e' := nI ((σ 0) * (σ 1))) (pk_mul _ _) ?_)
        refine lv_topi (nm_r (e' := (nI (nS σ))) (rfl) ?_)
        refine lv_irem hx hb dL_edge_25 (nI_ne0 (by omega) (by omega)) ?_
        refine lv_topi (nm_r (e' := nI (k % (nS σ))) (pk_rem (by omega) (by omega) (by omega)) ?_)
        refine lv_istore (lv' := [(4, .int (nI (k % (nS σ)))), (0, .ref (q 0)), (1, .int (nI e)), (2, .int (nI y)), (3, .int (nI k))]) hx hb dL_edge_26 hl (by decide) rfl (fun ls hl => ?_)
        refine lv_iload_n hx hb dL_edge_28 rfl (lv_at hl 4 rfl) ?_
        refine lv_iload hx hb dL_edge_29 (lv_at hl 0 rfl) ?_
        refine lv_icmp_ne (tgt := 38) hx hb dL_edge_31 (by decide) (fun h31 => ?_) (fun h31 => ?_)
        · skip
          have h31 : ¬ (k = (k % (nS σ))) := fun q => h31 ((nI_eq (by omega) (by omega)).mpr q)
          refine lv_iconst (v := nI 0) hx hb dL_edge_38 (by decide) ?_
          refine lv_istore (lv' := [(5, .int (nI 0)), (4, .int (nI (k % (nS σ)))), (0, .ref (q 0)), (1, .int (nI e)), (2, .int (nI y)), (3, .int (nI k))]) hx hb dL_edge_39 hl (by decide) rfl (fun ls hl => ?_)
          refine lv_iload hx hb dL_edge_41 (lv_at hl 0 rfl) ?_
          refine lv_if_eq (tgt := 68) hx hb dL_edge_43 (by decide) (fun h43 => ?_) (fun h43 => ?_)
          · skip
            have h43 : 0 = 0 := (z_eq0 (by omega)).mp h43
            refine lv_iload hx hb dL_edge_68 (lv_at hl 1 rfl) ?_
            refine lv_aload_n hx hb dL_edge_70 rfl (lv_at hl 2 rfl) ?_
            refine lv_iconst (v := nI 0) hx hb dL_edge_71 (by decide) ?_
            refine va_iald hx hb hG.1 hP 0 0 rfl rfl (vp_in_nI (n := 0) (N := 5) (by omega) (by omega)) dL_edge_72 ?_
            refine lv_topi (nm_r (e' := nI (σ 0)) (by rw [nI_clamp (by omega)]; exact if_neg (by omega)) ?_)
            refine lv_idiv hx hb dL_edge_73 (nI_ne0 (by omega) (by omega)) ?_
            refine lv_topi (nm_r (e' := nI ((k % (nS σ)) / (σ 0))) (pk_div (by omega) (by omega) (by omega)) ?_)
            refine lv_iconst (v := nI 1) hx hb dL_edge_74 (by decide) ?_
            refine lv_iadd hx hb dL_edge_75 ?_
            refine lv_topi (nm_r (e' := nI (((k % (nS σ)) / (σ 0)) + 1)) (nI_add _ _) ?_)
            refine lv_aload_n hx hb dL_edge_76 rfl (lv_at hl 2 rfl) ?_
            refine lv_iconst (v := nI 1) hx hb dL_edge_77 (by decide) ?_
            refine va_iald hx hb hG.1 hP 0 0 rfl rfl (vp_in_nI (n := 1) (N := 5) (by omega) (by omega)) dL_edge_78 ?_
            refine lv_topi (nm_r (e' := nI (σ 1)) (by rw [nI_clamp (by omega)]; exact if_neg (by omega)) ?_)
            refine lv_icmp_ge (tgt := 86) hx hb dL_edge_79 (by decide) (fun h79 => ?_) (fun h79 => ?_)
            · skip
              have h79 : (σ 1) ≤ (((k % (nS σ)) / (σ 0)) + 1) := (nI_leI (by omega) (by omega)).mp h79
              have hgs : gIs (σ 0) (σ 1) k = false := by unfold gIs; rw [if_neg (show ¬ k = k % (σ 0 * σ 1) from h31)]; exact decide_eq_false (Nat.not_lt.mpr h79)
              refine lv_iconst (v := nI 0) hx hb dL_edge_86 (by decide) ?_
              refine lv_istore (lv' := [(6, .int (nI 0)), (5, .int (nI 0)), (4, .int (nI (k % (nS σ)))), (0, .ref (q 0)), (1, .int (nI e)), (2, .int (nI y)), (3, .int (nI k))]) hx hb dL_edge_87 hl (by decide) rfl (fun ls hl => ?_)
              refine lv_iload hx hb dL_edge_89 (lv_at hl 0 rfl) ?_
              refine lv_if_eq (tgt := 114) hx hb dL_edge_91 (by decide) (fun h91 => ?_) (fun h91 => ?_)
              · skip
                have h91 : 0 = 0 := (z_eq0 (by omega)).mp h91
                refine lv_iload_n hx hb dL_edge_114 rfl (lv_at hl 5 rfl) ?_
                refine lv_iload hx hb dL_edge_115 (lv_at hl 0 rfl) ?_
                refine lv_if_eq (tgt := 124) hx hb dL_edge_117 (by decide) (fun h117 => ?_) (fun h117 => ?_)
                · skip
                  have h117 : 0 = 0 := (z_eq0 (by omega)).mp h117
                  refine lv_iconst (v := nI 0) hx hb dL_edge_124 (by decide) ?_
                  refine lv_isub hx hb dL_edge_125 ?_
                  refine lv_topi (nm_r (e' := nI (y - 0)) (pk_sub (by omega)) ?_)
                  refine lv_istore_n (lv' := [(2, .int (nI (y - 0))), (6, .int (nI 0)), (5, .int (nI 0)), (4, .int (nI (k % (nS σ)))), (0, .ref (q 0)), (1, .int (nI e)), (3, .int (nI k))]) hx hb dL_edge_126 rfl hl (by decide) rfl (fun ls hl => ?_)
                  refine lv_iinc (v := nI (k + 1)) (lv' := [(3, .int (nI (k + 1))), (2, .int (nI (y - 0))), (6, .int (nI 0)), (5, .int (nI 0)), (4, .int (nI (k % (nS σ)))), (0, .ref (q 0)), (1, .int (nI e))]) hx hb dL_edge_127 hl (k := 6) rfl (zinc1 _) (by decide) rfl (fun ls hl => ?_)
                  refine lv_goto (tgt := 4) hx hb dL_edge_130 (by decide) ?_
                  exact ih4 (y - 0) (k + 1) (by rw [gCn, if_neg (fun z => by rw [hgs] at z; cases z)]; omega) (by omega) (by omega) _ (lv_sub hl [5, 6, 1, 0] rfl)
                · skip
                  have h117 : ¬ (0 = 0) := fun q => h117 ((z_eq0 (by omega)).mpr q)
                  have h117 : 0 < 0 := Nat.pos_of_ne_zero h117
                  exfalso; omega
              · skip
                have h91 : ¬ (0 = 0) := fun q => h91 ((z_eq0 (by omega)).mpr q)
                have h91 : 0 < 0 := Nat.pos_of_ne_zero h91
                exfalso; omega
            · skip
              have h79 : ¬ ((σ 1) ≤ (((k % (nS σ)) / (σ 0)) + 1)) := fun q => h79 ((nI_leI (by omega) (by omega)).mpr q)
              have hgs : gIs (σ 0) (σ 1) k = true := by unfold gIs; rw [if_neg (show ¬ k = k % (σ 0 * σ 1) from h31)]; exact decide_eq_true (Nat.lt_of_not_le h79)
              refine lv_iconst (v := nI 1) hx hb dL_edge_82 (by decide) ?_
              refine lv_goto (tgt := 87) hx hb dL_edge_83 (by decide) ?_
              refine lv_istore (lv' := [(6, .int (nI 1)), (5, .int (nI 0)), (4, .int (nI (k % (nS σ)))), (0, .ref (q 0)), (1, .int (nI e)), (2, .int (nI y)), (3, .int (nI k))]) hx hb dL_edge_87 hl (by decide) rfl (fun ls hl => ?_)
              refine lv_iload hx hb dL_edge_89 (lv_at hl 0 rfl) ?_
              refine lv_if_eq (tgt := 114) hx hb dL_edge_91 (by decide) (fun h91 => ?_) (fun h91 => ?_)
              · skip
                have h91 : 1 = 0 := (z_eq0 (by omega)).mp h91
                exfalso; omega
              · skip
                have h91 : ¬ (1 = 0) := fun q => h91 ((z_eq0 (by omega)).mpr q)
                have h91 : 0 < 1 := Nat.pos_of_ne_zero h91
                refine lv_iload_n hx hb dL_edge_94 rfl (lv_at hl 5 rfl) ?_
                refine lv_if_ne (tgt := 114) hx hb dL_edge_95 (by decide) (fun h95 => ?_) (fun h95 => ?_)
                · skip
                  have h95 : ¬ (y = 0) := fun q => h95 ((z_eq0 (by omega)).mpr q)
                  have h95 : 0 < y := Nat.pos_of_ne_zero h95
                  refine lv_iload_n hx hb dL_edge_114 rfl (lv_at hl 5 rfl) ?_
                  refine lv_iload hx hb dL_edge_115 (lv_at hl 0 rfl) ?_
                  refine lv_if_eq (tgt := 124) hx hb dL_edge_117 (by decide) (fun h117 => ?_) (fun h117 => ?_)
                  · skip
                    have h117 : 1 = 0 := (z_eq0 (by omega)).mp h117
                    exfalso; omega
                  · skip
                    have h117 : ¬ (1 = 0) := fun q => h117 ((z_eq0 (by omega)).mpr q)
                    have h117 : 0 < 1 := Nat.pos_of_ne_zero h117
                    refine lv_iconst (v := nI 1) hx hb dL_edge_120 (by decide) ?_
                    refine lv_goto (tgt := 125) hx hb dL_edge_121 (by decide) ?_
                    refine lv_isub hx hb dL_edge_125 ?_
                    refine lv_topi (nm_r (e' := nI (y - 1)) (pk_sub (by omega)) ?_)
                    refine lv_istore_n (lv' := [(2, .int (nI (y - 1))), (6, .int (nI 1)), (5, .int (nI 0)), (4, .int (nI (k % (nS σ)))), (0, .ref (q 0)), (1, .int (nI e)), (3, .int (nI k))]) hx hb dL_edge_126 rfl hl (by decide) rfl (fun ls hl => ?_)
                    refine lv_iinc (v := nI (k + 1)) (lv' := [(3, .int (nI (k + 1))), (2, .int (nI (y - 1))), (6, .int (nI 1)), (5, .int (nI 0)), (4, .int (nI (k % (nS σ)))), (0, .ref (q 0)), (1, .int (nI e))]) hx hb dL_edge_127 hl (k := 6) rfl (zinc1 _) (by decide) rfl (fun ls hl => ?_)
                    refine lv_goto (tgt := 4) hx hb dL_edge_130 (by decide) ?_
                    exact ih4 (y - 1) (k + 1) (by rw [gCn, if_pos hgs]; omega) (by omega) (by omega) _ (lv_sub hl [5, 6, 1, 0] rfl)
                · skip
                  have h95 : y = 0 := (z_eq0 (by omega)).mp h95
                  refine lv_iload hx hb dL_edge_98 (lv_at hl 1 rfl) ?_
                  refine lv_if_eq (tgt := 108) hx hb dL_edge_100 (by decide) (fun h100 => ?_) (fun h100 => ?_)
                  · skip
                    have h100 : 0 = 0 := (z_eq0 (by omega)).mp h100
                    refine lv_bipush (v := nI 10) hx hb dL_edge_108 (by decide) ?_
                    refine lv_iload hx hb dL_edge_110 (lv_at hl 2 rfl) ?_
                    refine lv_iadd hx hb dL_edge_112 ?_
                    refine lv_topi (nm_r (e' := nI (10 + (k % (nS σ)))) (nI_add _ _) ?_)
                    exact hret _ _ _ dL_edge_113 (by obtain ⟨z1, z2⟩ := its_is hO hM (show k < 2 * nS σ by omega) hgs; obtain rfl : gCn (σ 0) (σ 1) k = e := (by omega); rw [eL_in z1, z2, if_neg h31])
                  · skip
                    have h100 : ¬ (0 = 0) := fun q => h100 ((z_eq0 (by omega)).mpr q)
                    have h100 : 0 < 0 := Nat.pos_of_ne_zero h100
                    exfalso; omega
          · skip
            have h43 : ¬ (0 = 0) := fun q => h43 ((z_eq0 (by omega)).mpr q)
            have h43 : 0 < 0 := Nat.pos_of_ne_zero h43
            exfalso; omega
        · skip
          have h31 : k = (k % (nS σ)) := (nI_eq (by omega) (by omega)).mp h31
          refine lv_iconst (v := nI 1) hx hb dL_edge_34 (by decide) ?_
          refine lv_goto (tgt := 39) hx hb dL_edge_35 (by decide) ?_
          refine lv_istore (lv' := [(5, .int (nI 1)), (4, .int (nI (k % (nS σ)))), (0, .ref (q 0)), (1, .int (nI e)), (2, .int (nI y)), (3, .int (nI k))]) hx hb dL_edge_39 hl (by decide) rfl (fun ls hl => ?_)
          refine lv_iload hx hb dL_edge_41 (lv_at hl 0 rfl) ?_
          refine lv_if_eq (tgt := 68) hx hb dL_edge_43 (by decide) (fun h43 => ?_) (fun h43 => ?_)
          · skip
            have h43 : 1 = 0 := (z_eq0 (by omega)).mp h43
            exfalso; omega
          · skip
            have h43 : ¬ (1 = 0) := fun q => h43 ((z_eq0 (by omega)).mpr q)
            have h43 : 0 < 1 := Nat.pos_of_ne_zero h43
            refine lv_iload hx hb dL_edge_46 (lv_at hl 1 rfl) ?_
            refine lv_aload_n hx hb dL_edge_48 rfl (lv_at hl 2 rfl) ?_
            refine lv_iconst (v := nI 0) hx hb dL_edge_49 (by decide) ?_
            refine va_iald hx hb hG.1 hP 0 0 rfl rfl (vp_in_nI (n := 0) (N := 5) (by omega) (by omega)) dL_edge_50 ?_
            refine lv_topi (nm_r (e' := nI (σ 0)) (by rw [nI_clamp (by omega)]; exact if_neg (by omega)) ?_)
            refine lv_irem hx hb dL_edge_51 (nI_ne0 (by omega) (by omega)) ?_
            refine lv_topi (nm_r (e' := nI ((k % (nS σ)) % (σ 0))) (pk_rem (by omega) (by omega) (by omega)) ?_)
            refine lv_iconst (v := nI 1) hx hb dL_edge_52 (by decide) ?_
            refine lv_iadd hx hb dL_edge_53 ?_
            refine lv_topi (nm_r (e' := nI (((k % (nS σ)) % (σ 0)) + 1)) (nI_add _ _) ?_)
            refine lv_aload_n hx hb dL_edge_54 rfl (lv_at hl 2 rfl) ?_
            refine lv_iconst (v := nI 0) hx hb dL_edge_55 (by decide) ?_
            refine va_iald hx hb hG.1 hP 0 0 rfl rfl (vp_in_nI (n := 0) (N := 5) (by omega) (by omega)) dL_edge_56 ?_
            refine lv_topi (nm_r (e' := nI (σ 0)) (by rw [nI_clamp (by omega)]; exact if_neg (by omega)) ?_)
            refine lv_icmp_ge (tgt := 64) hx hb dL_edge_57 (by decide) (fun h57 => ?_) (fun h57 => ?_)
            · skip
              have h57 : (σ 0) ≤ (((k % (nS σ)) % (σ 0)) + 1) := (nI_leI (by omega) (by omega)).mp h57
              have hgs : gIs (σ 0) (σ 1) k = false := by unfold gIs; rw [if_pos (show k = k % (σ 0 * σ 1) from h31)]; exact decide_eq_false (Nat.not_lt.mpr h57)
              refine lv_iconst (v := nI 0) hx hb dL_edge_64 (by decide) ?_
              refine lv_goto (tgt := 87) hx hb dL_edge_65 (by decide) ?_
              refine lv_istore (lv' := [(6, .int (nI 0)), (5, .int (nI 1)), (4, .int (nI (k % (nS σ)))), (0, .ref (q 0)), (1, .int (nI e)), (2, .int (nI y)), (3, .int (nI k))]) hx hb dL_edge_87 hl (by decide) rfl (fun ls hl => ?_)
              refine lv_iload hx hb dL_edge_89 (lv_at hl 0 rfl) ?_
              refine lv_if_eq (tgt := 114) hx hb dL_edge_91 (by decide) (fun h91 => ?_) (fun h91 => ?_)
              · skip
                have h91 : 0 = 0 := (z_eq0 (by omega)).mp h91
                refine lv_iload_n hx hb dL_edge_114 rfl (lv_at hl 5 rfl) ?_
                refine lv_iload hx hb dL_edge_115 (lv_at hl 0 rfl) ?_
                refine lv_if_eq (tgt := 124) hx hb dL_edge_117 (by decide) (fun h117 => ?_) (fun h117 => ?_)
                · skip
                  have h117 : 0 = 0 := (z_eq0 (by omega)).mp h117
                  refine lv_iconst (v := nI 0) hx hb dL_edge_124 (by decide) ?_
                  refine lv_isub hx hb dL_edge_125 ?_
                  refine lv_topi (nm_r (e' := nI (y - 0)) (pk_sub (by omega)) ?_)
                  refine lv_istore_n (lv' := [(2, .int (nI (y - 0))), (6, .int (nI 0)), (5, .int (nI 1)), (4, .int (nI (k % (nS σ)))), (0, .ref (q 0)), (1, .int (nI e)), (3, .int (nI k))]) hx hb dL_edge_126 rfl hl (by decide) rfl (fun ls hl => ?_)
                  refine lv_iinc (v := nI (k + 1)) (lv' := [(3, .int (nI (k + 1))), (2, .int (nI (y - 0))), (6, .int (nI 0)), (5, .int (nI 1)), (4, .int (nI (k % (nS σ)))), (0, .ref (q 0)), (1, .int (nI e))]) hx hb dL_edge_127 hl (k := 6) rfl (zinc1 _) (by decide) rfl (fun ls hl => ?_)
                  refine lv_goto (tgt := 4) hx hb dL_edge_130 (by decide) ?_
                  exact ih4 (y - 0) (k + 1) (by rw [gCn, if_neg (fun z => by rw [hgs] at z; cases z)]; omega) (by omega) (by omega) _ (lv_sub hl [5, 6, 1, 0] rfl)
                · skip
                  have h117 : ¬ (0 = 0) := fun q => h117 ((z_eq0 (by omega)).mpr q)
                  have h117 : 0 < 0 := Nat.pos_of_ne_zero h117
                  exfalso; omega
              · skip
                have h91 : ¬ (0 = 0) := fun q => h91 ((z_eq0 (by omega)).mpr q)
                have h91 : 0 < 0 := Nat.pos_of_ne_zero h91
                exfalso; omega
            · skip
              have h57 : ¬ ((σ 0) ≤ (((k % (nS σ)) % (σ 0)) + 1)) := fun q => h57 ((nI_leI (by omega) (by omega)).mpr q)
              have hgs : gIs (σ 0) (σ 1) k = true := by unfold gIs; rw [if_pos (show k = k % (σ 0 * σ 1) from h31)]; exact decide_eq_true (Nat.lt_of_not_le h57)
              refine lv_iconst (v := nI 1) hx hb dL_edge_60 (by decide) ?_
              refine lv_goto (tgt := 87) hx hb dL_edge_61 (by decide) ?_
              refine lv_istore (lv' := [(6, .int (nI 1)), (5, .int (nI 1)), (4, .int (nI (k % (nS σ)))), (0, .ref (q 0)), (1, .int (nI e)), (2, .int (nI y)), (3, .int (nI k))]) hx hb dL_edge_87 hl (by decide) rfl (fun ls hl => ?_)
              refine lv_iload hx hb dL_edge_89 (lv_at hl 0 rfl) ?_
              refine lv_if_eq (tgt := 114) hx hb dL_edge_91 (by decide) (fun h91 => ?_) (fun h91 => ?_)
              · skip
                have h91 : 1 = 0 := (z_eq0 (by omega)).mp h91
                exfalso; omega
              · skip
                have h91 : ¬ (1 = 0) := fun q => h91 ((z_eq0 (by omega)).mpr q)
                have h91 : 0 < 1 := Nat.pos_of_ne_zero h91
                refine lv_iload_n hx hb dL_edge_94 rfl (lv_at hl 5 rfl) ?_
                refine lv_if_ne (tgt := 114) hx hb dL_edge_95 (by decide) (fun h95 => ?_) (fun h95 => ?_)
                · skip
                  have h95 : ¬ (y = 0) := fun q => h95 ((z_eq0 (by omega)).mpr q)
                  have h95 : 0 < y := Nat.pos_of_ne_zero h95
                  refine lv_iload_n hx hb dL_edge_114 rfl (lv_at hl 5 rfl) ?_
                  refine lv_iload hx hb dL_edge_115 (lv_at hl 0 rfl) ?_
                  refine lv_if_eq (tgt := 124) hx hb dL_edge_117 (by decide) (fun h117 => ?_) (fun h117 => ?_)
                  · skip
                    have h117 : 1 = 0 := (z_eq0 (by omega)).mp h117
                    exfalso; omega
                  · skip
                    have h117 : ¬ (1 = 0) := fun q => h117 ((z_eq0 (by omega)).mpr q)
                    have h117 : 0 < 1 := Nat.pos_of_ne_zero h117
                    refine lv_iconst (v := nI 1) hx hb dL_edge_120 (by decide) ?_
                    refine lv_goto (tgt := 125) hx hb dL_edge_121 (by decide) ?_
                    refine lv_isub hx hb dL_edge_125 ?_
                    refine lv_topi (nm_r (e' := nI (y - 1)) (pk_sub (by omega)) ?_)
                    refine lv_istore_n (lv' := [(2, .int (nI (y - 1))), (6, .int (nI 1)), (5, .int (nI 1)), (4, .int (nI (k % (nS σ)))), (0, .ref (q 0)), (1, .int (nI e)), (3, .int (nI k))]) hx hb dL_edge_126 rfl hl (by decide) rfl (fun ls hl => ?_)
                    refine lv_iinc (v := nI (k + 1)) (lv' := [(3, .int (nI (k + 1))), (2, .int (nI (y - 1))), (6, .int (nI 1)), (5, .int (nI 1)), (4, .int (nI (k % (nS σ)))), (0, .ref (q 0)), (1, .int (nI e))]) hx hb dL_edge_127 hl (k := 6) rfl (zinc1 _) (by decide) rfl (fun ls hl => ?_)
                    refine lv_goto (tgt := 4) hx hb dL_edge_130 (by decide) ?_
                    exact ih4 (y - 1) (k + 1) (by rw [gCn, if_pos hgs]; omega) (by omega) (by omega) _ (lv_sub hl [5, 6, 1, 0] rfl)
                · skip
                  have h95 : y = 0 := (z_eq0 (by omega)).mp h95
                  refine lv_iload hx hb dL_edge_98 (lv_at hl 1 rfl) ?_
                  refine lv_if_eq (tgt := 108) hx hb dL_edge_100 (by decide) (fun h100 => ?_) (fun h100 => ?_)
                  · skip
                    have h100 : 1 = 0 := (z_eq0 (by omega)).mp h100
                    exfalso; omega
                  · skip
                    have h100 : ¬ (1 = 0) := fun q => h100 ((z_eq0 (by omega)).mpr q)
                    have h100 : 0 < 1 := Nat.pos_of_ne_zero h100
                    refine lv_iload hx hb dL_edge_103 (lv_at hl 2 rfl) ?_
                    refine lv_goto (tgt := 113) hx hb dL_edge_105 (by decide) ?_
                    exact hret _ _ _ dL_edge_113 (by obtain ⟨z1, z2⟩ := its_is hO hM (show k < 2 * nS σ by omega) hgs; obtain rfl : gCn (σ 0) (σ 1) k = e := (by omega); rw [eL_in z1, z2, if_pos h31])
  exact loop4 (2 * nS σ + 1) e 0 (Nat.add_zero e) (by omega) (by omega) _ (lv_sub hl [2, 3, 1, 0] rfl)
set_option maxHeartbeats 8000000 in
set_option maxRecDepth 100000 in
theorem kL_other (l : Launch) (G : zG) (q : Nat → Nat) (σ : Nat → Nat) {N : Nat} (e : Nat) (hO : Ok N σ) (hM : Sml σ) (he : e < nE σ) : Met l yL_other wsL_other (zRm 0 0) (zPc G [.ref (q 0), .int (nI (its σ e))] (va_P G.1 vwCl (wL G q σ))) (zS (.int (nI (sS σ e)))) 0 0 (fun _ => False) := by
  refine zmkI (cc := cL_other) (maxL := 2) (by decide) rfl (Nat.le_of_ble_eq_true rfl) ?_
  intro pr en st mi ar bl me cd ls Q hx hb hml hown hts hG hP hl hret
  have hown : st.vm.findClass RL = some mi.cls := hown
  have hl : lv_has ls 2 [(0, .ref (q 0)), (1, .int (nI (its σ e)))] := hl
  have hP : va_P G.1 vwCl (wL G q σ) st.heap := hP
  have hc := hO.c
  have hs := hO.lS
  have hne := hO.lE
  have hM6 := hM.s
  have hM7 := hM.e
  have hM4 := hM.r
  have hM1 := hM.1
  have hM2 := hM.2
  have h10 := its_10 hO hM he
  have hff := its_f hO hM he
  have hhi : ¬ e < rE σ → its σ e = 10 + fS σ e := its_hi
  have hlo : e < rE σ → its σ e = fS σ e := its_lo
  refine lv_iload_n hx hb dL_other_0 rfl (lv_at hl 1 rfl) ?_
  refine lv_bipush (v := nI 10) hx hb dL_other_1 (by decide) ?_
  refine lv_icmp_ge (tgt := 12) hx hb dL_other_3 (by decide) (fun h3 => ?_) (fun h3 => ?_)
  · skip
    have h3 : 10 ≤ (its σ e) := (nI_leI (by omega) (by omega)).mp h3
    refine lv_iload_n hx hb dL_other_12 rfl (lv_at hl 1 rfl) ?_
    refine lv_bipush (v := nI 10) hx hb dL_other_13 (by decide) ?_
    refine lv_isub hx hb dL_other_15 ?_
    refine lv_topi (nm_r (e' := nI ((its σ e) - 10)) (pk_sub (by omega)) ?_)
    refine lv_aload_n hx hb dL_other_16 rfl (lv_at hl 0 rfl) ?_
    refine lv_iconst (v := nI 0) hx hb dL_other_17 (by decide) ?_
    refine va_iald hx hb hG.1 hP 0 0 rfl rfl (vp_in_nI (n := 0) (N := 5) (by omega) (by omega)) dL_other_18 ?_
    refine lv_topi (nm_r (e' := nI (σ 0)) (by rw [nI_clamp (by omega)]; exact if_neg (by omega)) ?_)
    refine lv_iadd hx hb dL_other_19 ?_
    refine lv_topi (nm_r (e' := nI (((its σ e) - 10) + (σ 0))) (nI_add _ _) ?_)
    exact hret _ _ _ dL_other_20 (by have hq : ¬ e < rE σ := (fun z => by have := h10.1.mpr z; omega); have := hhi hq; unfold sS; rw [if_neg hq, this]; congr 1; omega)
  · skip
    have h3 : ¬ (10 ≤ (its σ e)) := fun q => h3 ((nI_leI (by omega) (by omega)).mpr q)
    refine lv_iload_n hx hb dL_other_6 rfl (lv_at hl 1 rfl) ?_
    refine lv_iconst (v := nI 1) hx hb dL_other_7 (by decide) ?_
    refine lv_iadd hx hb dL_other_8 ?_
    refine lv_topi (nm_r (e' := nI ((its σ e) + 1)) (nI_add _ _) ?_)
    refine lv_goto (tgt := 20) hx hb dL_other_9 (by decide) ?_
    exact hret _ _ _ dL_other_20 (by have hq := h10.1.mp (by omega); have := hlo hq; unfold sS; rw [if_pos hq, this])
set_option maxHeartbeats 8000000 in
set_option maxRecDepth 100000 in
theorem kL_reason (l : Launch) (G : zG) (q : Nat → Nat) (σ : Nat → Nat) {N : Nat} (e p : Nat) (hO : Ok N σ) (hM : Sml σ) (he : e < nE σ) (hp : p < 10) : Met l yL_reason wsL_reason (zRm 3 72) (zPc G [.ref (q 0), .ref (q 2), .ref (q 3), .int (nI (its σ e)), .int (nI p)] (va_P G.1 vwCl (wL G q σ))) (zS (.int (nI (rsn σ e p)))) 0 0 (fun _ => False) := by
  refine zmkI (cc := cL_reason) (maxL := 7) (by decide) rfl (Nat.le_of_ble_eq_true rfl) ?_
  intro pr en st mi ar bl me cd ls Q hx hb hml hown hts hG hP hl hret
  have hown : st.vm.findClass RL = some mi.cls := hown
  have hl : lv_has ls 7 [(0, .ref (q 0)), (1, .ref (q 2)), (2, .ref (q 3)), (3, .int (nI (its σ e))), (4, .int (nI p))] := hl
  have hP : va_P G.1 vwCl (wL G q σ) st.heap := hP
  have hc := hO.c
  have hs := hO.lS
  have hne := hO.lE
  have hM6 := hM.s
  have hM7 := hM.e
  have hM4 := hM.r
  have hM1 := hM.1
  have hM2 := hM.2
  have h10 := its_10 hO hM he
  have hff := its_f hO hM he
  have hhi : ¬ e < rE σ → its σ e = 10 + fS σ e := its_hi
  have hlo : e < rE σ → its σ e = fS σ e := its_lo
  have hfd := fD_lt σ e
  have hsd := sD_lt σ e
  refine lv_aload_n hx hb dL_reason_0 rfl (lv_at hl 1 rfl) ?_
  refine lv_aload_n hx hb dL_reason_1 rfl (lv_at hl 2 rfl) ?_
  refine lv_iload_n hx hb dL_reason_2 rfl (lv_at hl 3 rfl) ?_
  refine lv_bipush (v := nI 10) hx hb dL_reason_3 (by decide) ?_
  refine lv_irem hx hb dL_reason_5 (nI_ne0 (by omega) (by omega)) ?_
  refine lv_topi (nm_r (e' := nI ((its σ e) % 10)) (pk_rem (by omega) (by omega) (by omega)) ?_)
  refine lv_topi (nm_r (e' := (nI (fS σ e))) (congrArg nI h10.2.1) ?_)
  have mg6 : W pr l en (zRm 3 72) st mi ar bl me cd st.heap [] 0 0 Q (F0 mi 17 ls [.int (nI (fD σ e)), .int (nI (fS σ e)), .ref (q 3), .ref (q 2)]) := by
    refine lv_iload hx hb dL_reason_17 (lv_at hl 4 rfl) ?_
    refine zrdS (As := [.ref (q 2), .ref (q 3), .int (nI (fS σ e)), .int (nI (fD σ e)), .int (nI p)]) ⟨hx, hb, hml, hown, hts⟩ (kL_means l G q σ (fS σ e) (fD σ e) p (hO) (by omega) (by omega) (by omega)) (va_cwS 5 hts gL_reason_L_means rfl rfl rfl (by decide +kernel) ⟨Nat.le_of_ble_eq_true rfl, Nat.le_of_ble_eq_true rfl⟩) hG (hP) rfl rfl hl.1 dL_reason_19 (Nat.le_of_ble_eq_true rfl) ⟨Nat.le_of_ble_eq_true rfl, Nat.le_of_ble_eq_true rfl⟩ ?_
    have hf19_0 := hO.mn (show (fS σ e) < 36 by omega) (show (fD σ e) < 4 by omega) (show p < 10 by omega)
    refine lv_istore (lv' := [(5, .int (nI (mns σ (fS σ e) (fD σ e) p))), (0, .ref (q 0)), (1, .ref (q 2)), (2, .ref (q 3)), (3, .int (nI (its σ e))), (4, .int (nI p))]) hx hb dL_reason_22 hl (by decide) rfl (fun ls hl => ?_)
    refine lv_aload_n hx hb dL_reason_24 rfl (lv_at hl 2 rfl) ?_
    refine lv_aload_n hx hb dL_reason_25 rfl (lv_at hl 3 rfl) ?_
    refine lv_aload_n hx hb dL_reason_26 rfl (lv_at hl 1 rfl) ?_
    refine lv_iload_n hx hb dL_reason_27 rfl (lv_at hl 4 rfl) ?_
    refine zrdS (As := [.ref (q 0), .int (nI (its σ e))]) ⟨hx, hb, hml, hown, hts⟩ (kL_other l G q σ e (hO) (hM) (by omega)) (va_cwS 2 hts gL_reason_L_other rfl rfl rfl (by decide +kernel) ⟨Nat.le_of_ble_eq_true rfl, Nat.le_of_ble_eq_true rfl⟩) hG (hP) rfl rfl hl.1 dL_reason_28 (Nat.le_of_ble_eq_true rfl) ⟨Nat.le_of_ble_eq_true rfl, Nat.le_of_ble_eq_true rfl⟩ ?_
    have mg31 : W pr l en (zRm 3 72) st mi ar bl me cd st.heap [] 0 0 Q (F0 mi 42 ls [.int (nI (sD σ e)), .int (nI (sS σ e)), .ref (q 3), .ref (q 2)]) := by
      refine lv_iload hx hb dL_reason_42 (lv_at hl 5 rfl) ?_
      refine zrdS (As := [.ref (q 2), .ref (q 3), .int (nI (sS σ e)), .int (nI (sD σ e)), .int (nI p)]) ⟨hx, hb, hml, hown, hts⟩ (kL_means l G q σ (sS σ e) (sD σ e) p (hO) (by omega) (by omega) (by omega)) (va_cwS 5 hts gL_reason_L_means rfl rfl rfl (by decide +kernel) ⟨Nat.le_of_ble_eq_true rfl, Nat.le_of_ble_eq_true rfl⟩) hG (hP) rfl rfl hl.1 dL_reason_44 (Nat.le_of_ble_eq_true rfl) ⟨Nat.le_of_ble_eq_true rfl, Nat.le_of_ble_eq_true rfl⟩ ?_
      have hf44_0 := hO.mn (show (sS σ e) < 36 by omega) (show (sD σ e) < 4 by omega) (show p < 10 by omega)
      refine lv_istore (lv' := [(6, .int (nI (mns σ (sS σ e) (sD σ e) p))), (5, .int (nI (mns σ (fS σ e) (fD σ e) p))), (0, .ref (q 0)), (1, .ref (q 2)), (2, .ref (q 3)), (3, .int (nI (its σ e))), (4, .int (nI p))]) hx hb dL_reason_47 hl (by decide) rfl (fun ls hl => ?_)
      refine lv_iload hx hb dL_reason_49 (lv_at hl 1 rfl) ?_
      refine lv_iload hx hb dL_reason_51 (lv_at hl 0 rfl) ?_
      refine lv_icmp_ne (tgt := 60) hx hb dL_reason_53 (by decide) (fun h53 => ?_) (fun h53 => ?_)
      · skip
        have h53 : ¬ ((mns σ (fS σ e) (fD σ e) p) = (mns σ (sS σ e) (sD σ e) p)) := fun q => h53 ((nI_eq (by omega) (by omega)).mpr q)
        refine lv_iload hx hb dL_reason_60 (lv_at hl 1 rfl) ?_
        refine lv_bipush (v := nI 10) hx hb dL_reason_62 (by decide) ?_
        refine lv_icmp_eq (tgt := 74) hx hb dL_reason_64 (by decide) (fun h64 => ?_) (fun h64 => ?_)
        · skip
          have h64 : (mns σ (fS σ e) (fD σ e) p) = 10 := (nI_eq (by omega) (by omega)).mp h64
          refine lv_iconst (v := nI 1) hx hb dL_reason_74 (by decide) ?_
          refine lv_goto (tgt := 79) hx hb dL_reason_75 (by decide) ?_
          exact hret _ _ _ dL_reason_79 (by unfold rsn; rw [if_neg h53, if_pos (by first | exact Or.inl h64 | exact Or.inr h71)])
        · skip
          have h64 : ¬ ((mns σ (fS σ e) (fD σ e) p) = 10) := fun q => h64 ((nI_eq (by omega) (by omega)).mpr q)
          refine lv_iload hx hb dL_reason_67 (lv_at hl 0 rfl) ?_
          refine lv_bipush (v := nI 10) hx hb dL_reason_69 (by decide) ?_
          refine lv_icmp_ne (tgt := 78) hx hb dL_reason_71 (by decide) (fun h71 => ?_) (fun h71 => ?_)
          · skip
            have h71 : ¬ ((mns σ (sS σ e) (sD σ e) p) = 10) := fun q => h71 ((nI_eq (by omega) (by omega)).mpr q)
            refine lv_iconst (v := nI 2) hx hb dL_reason_78 (by decide) ?_
            exact hret _ _ _ dL_reason_79 (by unfold rsn; rw [if_neg h53, if_neg (fun q => q.elim h64 h71)])
          · skip
            have h71 : (mns σ (sS σ e) (sD σ e) p) = 10 := (nI_eq (by omega) (by omega)).mp h71
            refine lv_iconst (v := nI 1) hx hb dL_reason_74 (by decide) ?_
            refine lv_goto (tgt := 79) hx hb dL_reason_75 (by decide) ?_
            exact hret _ _ _ dL_reason_79 (by unfold rsn; rw [if_neg h53, if_pos (by first | exact Or.inl h64 | exact Or.inr h71)])
      · skip
        have h53 : (mns σ (fS σ e) (fD σ e) p) = (mns σ (sS σ e) (sD σ e) p) := (nI_eq (by omega) (by omega)).mp h53
        refine lv_iconst (v := nI 0) hx hb dL_reason_56 (by decide) ?_
        refine lv_goto (tgt := 79) hx hb dL_reason_57 (by decide) ?_
        exact hret _ _ _ dL_reason_79 (by unfold rsn; rw [if_pos h53])
    refine lv_iload_n hx hb dL_reason_31 rfl (lv_at hl 4 rfl) ?_
    refine lv_bipush (v := nI 10) hx hb dL_reason_32 (by decide) ?_
    refine lv_icmp_ge (tgt := 41) hx hb dL_reason_34 (by decide) (fun h34 => ?_) (fun h34 => ?_)
    · skip
      have h34 : 10 ≤ (its σ e) := (nI_leI (by omega) (by omega)).mp h34
      refine lv_iconst (v := nI 0) hx hb dL_reason_41 (by decide) ?_
      refine lv_topi (nm_r (e' := (nI (sD σ e))) (by unfold sD; rw [if_neg (fun z => by have := h10.1.mpr z; omega)]) ?_)
      exact mg31
    · skip
      have h34 : ¬ (10 ≤ (its σ e)) := fun q => h34 ((nI_leI (by omega) (by omega)).mpr q)
      refine lv_iconst (v := nI 3) hx hb dL_reason_37 (by decide) ?_
      refine lv_goto (tgt := 42) hx hb dL_reason_38 (by decide) ?_
      refine lv_topi (nm_r (e' := (nI (sD σ e))) (by unfold sD; rw [if_pos (h10.1.mp (by omega))]) ?_)
      exact mg31
  refine lv_iload_n hx hb dL_reason_6 rfl (lv_at hl 3 rfl) ?_
  refine lv_bipush (v := nI 10) hx hb dL_reason_7 (by decide) ?_
  refine lv_icmp_ge (tgt := 16) hx hb dL_reason_9 (by decide) (fun h9 => ?_) (fun h9 => ?_)
  · skip
    have h9 : 10 ≤ (its σ e) := (nI_leI (by omega) (by omega)).mp h9
    refine lv_iconst (v := nI 2) hx hb dL_reason_16 (by decide) ?_
    refine lv_topi (nm_r (e' := (nI (fD σ e))) (by unfold fD; rw [if_neg (fun z => by have := h10.1.mpr z; omega)]) ?_)
    exact mg6
  · skip
    have h9 : ¬ (10 ≤ (its σ e)) := fun q => h9 ((nI_leI (by omega) (by omega)).mpr q)
    refine lv_iconst (v := nI 1) hx hb dL_reason_12 (by decide) ?_
    refine lv_goto (tgt := 17) hx hb dL_reason_13 (by decide) ?_
    refine lv_topi (nm_r (e' := (nI (fD σ e))) (by unfold fD; rw [if_pos (h10.1.mp (by omega))]) ?_)
    exact mg6
set_option maxHeartbeats 8000000 in
set_option maxRecDepth 100000 in
theorem kL_quarrels (l : Launch) (G : zG) (q : Nat → Nat) (σ : Nat → Nat) {N : Nat} (e : Nat) (hO : Ok N σ) (hM : Sml σ) (he : e < nE σ) : Met l yL_quarrels wsL_quarrels (zRm 4 98) (zPc G [.ref (q 0), .ref (q 2), .ref (q 3), .int (nI (its σ e))] (va_P G.1 vwCl (wL G q σ))) (zS (.int (nI (qrl σ e)))) 0 0 (fun _ => False) := by
  refine zmkI (cc := cL_quarrels) (maxL := 6) (by decide) rfl (Nat.le_of_ble_eq_true rfl) ?_
  intro pr en st mi ar bl me cd ls Q hx hb hml hown hts hG hP hl hret
  have hown : st.vm.findClass RL = some mi.cls := hown
  have hl : lv_has ls 6 [(0, .ref (q 0)), (1, .ref (q 2)), (2, .ref (q 3)), (3, .int (nI (its σ e)))] := hl
  have hP : va_P G.1 vwCl (wL G q σ) st.heap := hP
  have hc := hO.c
  have hs := hO.lS
  have hne := hO.lE
  have hM6 := hM.s
  have hM7 := hM.e
  have hM4 := hM.r
  have hM1 := hM.1
  have hM2 := hM.2
  refine lv_iconst (v := nI 0) hx hb dL_quarrels_0 (by decide) ?_
  refine lv_istore (lv' := [(4, .int (nI 0)), (0, .ref (q 0)), (1, .ref (q 2)), (2, .ref (q 3)), (3, .int (nI (its σ e)))]) hx hb dL_quarrels_1 hl (by decide) rfl (fun ls hl => ?_)
  refine lv_iconst (v := nI 0) hx hb dL_quarrels_3 (by decide) ?_
  refine lv_istore (lv' := [(5, .int (nI 0)), (4, .int (nI 0)), (0, .ref (q 0)), (1, .ref (q 2)), (2, .ref (q 3)), (3, .int (nI (its σ e)))]) hx hb dL_quarrels_4 hl (by decide) rfl (fun ls hl => ?_)
  have loop6 : ∀ (m : Nat) (i : Nat) (xx : Nat) (hxx : xx = sm (fun p => if rsn σ e p = 0 then 0 else 1) i) (hi : i ≤ 10) (hm : 10 < i + m) (ls : Array Slot) (hl : lv_has ls 6 [(0, .ref (q 0)), (1, .ref (q 2)), (2, .ref (q 3)), (3, .int (nI (its σ e))), (4, .int (nI xx)), (5, .int (nI i))]), W pr l en (zRm 4 98) st mi ar bl me cd st.heap [] 0 0 Q (F0 mi 6 ls []) := by
    intro m
    induction m with
    | zero => intro i xx hxx hi hm ls hl; exfalso; omega
    | succ m ih6 =>
      intro i xx hxx hi hm ls hl
      refine lv_iload hx hb dL_quarrels_6 (lv_at hl 5 rfl) ?_
      refine lv_bipush (v := nI 10) hx hb dL_quarrels_8 (by decide) ?_
      refine lv_icmp_ge (tgt := 41) hx hb dL_quarrels_10 (by decide) (fun h10 => ?_) (fun h10 => ?_)
      · skip
        have h10 : 10 ≤ i := (nI_leI (by omega) (by omega)).mp h10
        refine lv_iload hx hb dL_quarrels_41 (lv_at hl 4 rfl) ?_
        exact hret _ _ _ dL_quarrels_43 (by obtain rfl : i = 10 := (by omega); rw [hxx]; rfl)
      · skip
        have h10 : ¬ (10 ≤ i) := fun q => h10 ((nI_leI (by omega) (by omega)).mpr q)
        refine lv_iload hx hb dL_quarrels_13 (lv_at hl 4 rfl) ?_
        refine lv_aload_n hx hb dL_quarrels_15 rfl (lv_at hl 0 rfl) ?_
        refine lv_aload_n hx hb dL_quarrels_16 rfl (lv_at hl 1 rfl) ?_
        refine lv_aload_n hx hb dL_quarrels_17 rfl (lv_at hl 2 rfl) ?_
        refine lv_iload_n hx hb dL_quarrels_18 rfl (lv_at hl 3 rfl) ?_
        refine lv_iload hx hb dL_quarrels_19 (lv_at hl 5 rfl) ?_
        refine zrdS (As := [.ref (q 0), .ref (q 2), .ref (q 3), .int (nI (its σ e)), .int (nI i)]) ⟨hx, hb, hml, hown, hts⟩ (kL_reason l G q σ e i (hO) (hM) (by omega) (by omega)) (va_cwS 5 hts gL_quarrels_L_reason rfl rfl rfl (by decide +kernel) ⟨Nat.le_of_ble_eq_true rfl, Nat.le_of_ble_eq_true rfl⟩) hG (hP) rfl rfl hl.1 dL_quarrels_21 (Nat.le_of_ble_eq_true rfl) ⟨Nat.le_of_ble_eq_true rfl, Nat.le_of_ble_eq_true rfl⟩ ?_
        have hf21_0 := rsn_le σ (e) (i)
        refine lv_if_le (tgt := 31) hx hb dL_quarrels_24 (by decide) (fun h24 => ?_) (fun h24 => ?_)
        · skip
          have h24 : (rsn σ e i) = 0 := (z_le0 (by omega)).mp h24
          refine lv_iconst (v := nI 0) hx hb dL_quarrels_31 (by decide) ?_
          refine lv_iadd hx hb dL_quarrels_32 ?_
          refine lv_topi (nm_r (e' := nI (xx + 0)) (nI_add _ _) ?_)
          refine lv_istore (lv' := [(4, .int (nI (xx + 0))), (0, .ref (q 0)), (1, .ref (q 2)), (2, .ref (q 3)), (3, .int (nI (its σ e))), (5, .int (nI i))]) hx hb dL_quarrels_33 hl (by decide) rfl (fun ls hl => ?_)
          refine lv_iinc (v := nI (i + 1)) (lv' := [(5, .int (nI (i + 1))), (4, .int (nI (xx + 0))), (0, .ref (q 0)), (1, .ref (q 2)), (2, .ref (q 3)), (3, .int (nI (its σ e)))]) hx hb dL_quarrels_35 hl (k := 5) rfl (zinc1 _) (by decide) rfl (fun ls hl => ?_)
          refine lv_goto (tgt := 6) hx hb dL_quarrels_38 (by decide) ?_
          exact ih6 (i + 1) (xx + 0) (by rw [sm, ← hxx]; try (simp [h10, h24] <;> omega)) (by omega) (by omega) _ (lv_sub hl [2, 3, 4, 5, 1, 0] rfl)
        · skip
          have h24 : ¬ ((rsn σ e i) = 0) := fun q => h24 ((z_le0 (by omega)).mpr q)
          have h24 : 0 < (rsn σ e i) := Nat.pos_of_ne_zero h24
          refine lv_iconst (v := nI 1) hx hb dL_quarrels_27 (by decide) ?_
          refine lv_goto (tgt := 32) hx hb dL_quarrels_28 (by decide) ?_
          refine lv_iadd hx hb dL_quarrels_32 ?_
          refine lv_topi (nm_r (e' := nI (xx + 1)) (nI_add _ _) ?_)
          refine lv_istore (lv' := [(4, .int (nI (xx + 1))), (0, .ref (q 0)), (1, .ref (q 2)), (2, .ref (q 3)), (3, .int (nI (its σ e))), (5, .int (nI i))]) hx hb dL_quarrels_33 hl (by decide) rfl (fun ls hl => ?_)
          refine lv_iinc (v := nI (i + 1)) (lv' := [(5, .int (nI (i + 1))), (4, .int (nI (xx + 1))), (0, .ref (q 0)), (1, .ref (q 2)), (2, .ref (q 3)), (3, .int (nI (its σ e)))]) hx hb dL_quarrels_35 hl (k := 5) rfl (zinc1 _) (by decide) rfl (fun ls hl => ?_)
          refine lv_goto (tgt := 6) hx hb dL_quarrels_38 (by decide) ?_
          exact ih6 (i + 1) (xx + 1) (by rw [sm, ← hxx]; try (simp [h10, h24] <;> omega)) (by omega) (by omega) _ (lv_sub hl [2, 3, 4, 5, 1, 0] rfl)
  exact loop6 (10 + 1) 0 0 (rfl) (by omega) (by omega) _ (lv_sub hl [2, 3, 4, 5, 1, 0] rfl)
set_option maxHeartbeats 8000000 in
set_option maxRecDepth 100000 in
theorem kL_torn (l : Launch) (G : zG) (q : Nat → Nat) (σ : Nat → Nat) {N : Nat} (hO : Ok N σ) (hM : Sml σ) : Met l yL_torn wsL_torn (zRm 5 123) (zPc G [.ref (q 0), .ref (q 2), .ref (q 3)] (va_P G.1 vwCl (wL G q σ))) (zS (.int (nI (trn σ)))) 0 0 (fun _ => False) := by
  refine zmkI (cc := cL_torn) (maxL := 5) (by decide) rfl (Nat.le_of_ble_eq_true rfl) ?_
  intro pr en st mi ar bl me cd ls Q hx hb hml hown hts hG hP hl hret
  have hown : st.vm.findClass RL = some mi.cls := hown
  have hl : lv_has ls 5 [(0, .ref (q 0)), (1, .ref (q 2)), (2, .ref (q 3))] := hl
  have hP : va_P G.1 vwCl (wL G q σ) st.heap := hP
  have hc := hO.c
  have hs := hO.lS
  have hne := hO.lE
  have hM6 := hM.s
  have hM7 := hM.e
  have hM4 := hM.r
  have hM1 := hM.1
  have hM2 := hM.2
  refine lv_iconst (v := nI 0) hx hb dL_torn_0 (by decide) ?_
  refine lv_istore_n (lv' := [(3, .int (nI 0)), (0, .ref (q 0)), (1, .ref (q 2)), (2, .ref (q 3))]) hx hb dL_torn_1 rfl hl (by decide) rfl (fun ls hl => ?_)
  refine lv_iconst (v := nI 0) hx hb dL_torn_2 (by decide) ?_
  refine lv_istore (lv' := [(4, .int (nI 0)), (3, .int (nI 0)), (0, .ref (q 0)), (1, .ref (q 2)), (2, .ref (q 3))]) hx hb dL_torn_3 hl (by decide) rfl (fun ls hl => ?_)
  have loop5 : ∀ (m : Nat) (e : Nat) (S : Nat) (hS1 : S = trp σ e) (he : e ≤ nE σ) (hm : nE σ < e + m) (ls : Array Slot) (hl : lv_has ls 5 [(0, .ref (q 0)), (1, .ref (q 2)), (2, .ref (q 3)), (3, .int (nI S)), (4, .int (nI e))]), W pr l en (zRm 5 123) st mi ar bl me cd st.heap [] 0 0 Q (F0 mi 5 ls []) := by
    intro m
    induction m with
    | zero => intro e S hS1 he hm ls hl; exfalso; omega
    | succ m ih5 =>
      intro e S hS1 he hm ls hl
      refine lv_aload_n hx hb dL_torn_5 rfl (lv_at hl 0 rfl) ?_
      refine lv_iload hx hb dL_torn_6 (lv_at hl 4 rfl) ?_
      refine zrdS (As := [.ref (q 0), .int (nI e)]) ⟨hx, hb, hml, hown, hts⟩ (kL_edge l G q σ e (hO) (hM) (by omega)) (va_cwS 2 hts gL_torn_L_edge rfl rfl rfl (by decide +kernel) ⟨Nat.le_of_ble_eq_true rfl, Nat.le_of_ble_eq_true rfl⟩) hG (hP) rfl rfl hl.1 dL_torn_8 (Nat.le_of_ble_eq_true rfl) ⟨Nat.le_of_ble_eq_true rfl, Nat.le_of_ble_eq_true rfl⟩ ?_
      refine lv_if_lt (tgt := 58) hx hb dL_torn_11 (by decide) (fun h11 => ?_) (fun h11 => ?_)
      · skip
        have h11 : nE σ ≤ e := (eL_lt hO hM).mp h11
        refine lv_iload_n hx hb dL_torn_58 rfl (lv_at hl 3 rfl) ?_
        exact hret _ _ _ dL_torn_59 (by obtain rfl : e = nE σ := (by omega); rw [hS1, trp_trn (by omega)])
      · skip
        have h11 : ¬ (nE σ ≤ e) := fun q => h11 ((eL_lt hO hM).mpr q)
        have hag := hO.ag (show e < 60 by omega)
        refine lv_iload_n hx hb dL_torn_14 rfl (lv_at hl 3 rfl) ?_
        have mg15 : W pr l en (zRm 5 123) st mi ar bl me cd st.heap [] 0 0 Q (F0 mi 50 ls [.int (nI (if bd σ e then 2 ^ e else 0)), .int (nI S)]) := by
          refine lv_ior hx hb dL_torn_50 ?_
          refine lv_topi (nm_r (e' := (nI (trp σ (e + 1)))) (by rw [hS1]; exact trp_or σ (by omega)) ?_)
          refine lv_istore_n (lv' := [(3, .int (nI (trp σ (e + 1)))), (0, .ref (q 0)), (1, .ref (q 2)), (2, .ref (q 3)), (4, .int (nI e))]) hx hb dL_torn_51 rfl hl (by decide) rfl (fun ls hl => ?_)
          refine lv_iinc (v := nI (e + 1)) (lv' := [(4, .int (nI (e + 1))), (3, .int (nI (trp σ (e + 1)))), (0, .ref (q 0)), (1, .ref (q 2)), (2, .ref (q 3))]) hx hb dL_torn_52 hl (k := 4) rfl (zinc1 _) (by decide) rfl (fun ls hl => ?_)
          refine lv_goto (tgt := 5) hx hb dL_torn_55 (by decide) ?_
          exact ih5 (e + 1) (trp σ (e + 1)) (rfl) (by omega) (by omega) _ (lv_sub hl [2, 3, 4, 1, 0] rfl)
        refine lv_aload_n hx hb dL_torn_15 rfl (lv_at hl 0 rfl) ?_
        refine lv_iconst (v := nI 4) hx hb dL_torn_16 (by decide) ?_
        refine va_iald hx hb hG.1 hP 0 0 rfl rfl (vp_in_nI (n := 4) (N := 5) (by omega) (by omega)) dL_torn_17 ?_
        refine lv_topi (nm_r (e' := nI (agM σ)) (by rw [nI_clamp (by omega)]; exact if_pos rfl) ?_)
        refine lv_iload hx hb dL_torn_18 (lv_at hl 4 rfl) ?_
        refine lv_ishr hx hb dL_torn_20 ?_
        refine lv_iconst (v := nI 1) hx hb dL_torn_21 (by decide) ?_
        refine lv_iand hx hb dL_torn_22 ?_
        refine lv_topi (nm_r (e' := (nI (agn σ e))) (by rw [b_get _ (agM_lt hO) e (by omega), agM_bt hO (by omega)]) ?_)
        refine lv_iconst (v := nI 1) hx hb dL_torn_23 (by decide) ?_
        refine lv_icmp_ne (tgt := 49) hx hb dL_torn_24 (by decide) (fun h24 => ?_) (fun h24 => ?_)
        · skip
          have h24 : ¬ ((agn σ e) = 1) := fun q => h24 ((nI_eq (by omega) (by omega)).mpr q)
          refine lv_iconst (v := nI 0) hx hb dL_torn_49 (by decide) ?_
          refine lv_topi (nm_r (e' := (nI (if bd σ e then 2 ^ e else 0))) (by rw [if_neg (fun z => h24 z.1)]) ?_)
          exact mg15
        · skip
          have h24 : (agn σ e) = 1 := (nI_eq (by omega) (by omega)).mp h24
          refine lv_aload_n hx hb dL_torn_27 rfl (lv_at hl 0 rfl) ?_
          refine lv_aload_n hx hb dL_torn_28 rfl (lv_at hl 1 rfl) ?_
          refine lv_aload_n hx hb dL_torn_29 rfl (lv_at hl 2 rfl) ?_
          refine lv_aload_n hx hb dL_torn_30 rfl (lv_at hl 0 rfl) ?_
          refine lv_iload hx hb dL_torn_31 (lv_at hl 4 rfl) ?_
          refine zrdS (As := [.ref (q 0), .int (nI e)]) ⟨hx, hb, hml, hown, hts⟩ (kL_edge l G q σ e (hO) (hM) (by omega)) (va_cwS 2 hts gL_torn_L_edge rfl rfl rfl (by decide +kernel) ⟨Nat.le_of_ble_eq_true rfl, Nat.le_of_ble_eq_true rfl⟩) hG (hP) rfl rfl hl.1 dL_torn_33 (Nat.le_of_ble_eq_true rfl) ⟨Nat.le_of_ble_eq_true rfl, Nat.le_of_ble_eq_true rfl⟩ ?_
          refine lv_topi (nm_r (e' := (nI (its σ e))) (eL_in (by omega)) ?_)
          refine zrdS (As := [.ref (q 0), .ref (q 2), .ref (q 3), .int (nI (its σ e))]) ⟨hx, hb, hml, hown, hts⟩ (kL_quarrels l G q σ e (hO) (hM) (by omega)) (va_cwS 4 hts gL_torn_L_quarrels rfl rfl rfl (by decide +kernel) ⟨Nat.le_of_ble_eq_true rfl, Nat.le_of_ble_eq_true rfl⟩) hG (hP) rfl rfl hl.1 dL_torn_36 (Nat.le_of_ble_eq_true rfl) ⟨Nat.le_of_ble_eq_true rfl, Nat.le_of_ble_eq_true rfl⟩ ?_
          have hf36_0 := qrl_le σ (e)
          refine lv_if_le (tgt := 49) hx hb dL_torn_39 (by decide) (fun h39 => ?_) (fun h39 => ?_)
          · skip
            have h39 : (qrl σ e) = 0 := (z_le0 (by omega)).mp h39
            refine lv_iconst (v := nI 0) hx hb dL_torn_49 (by decide) ?_
            refine lv_topi (nm_r (e' := (nI (if bd σ e then 2 ^ e else 0))) (by rw [if_neg (fun z => by have := z.2; omega)]) ?_)
            exact mg15
          · skip
            have h39 : ¬ ((qrl σ e) = 0) := fun q => h39 ((z_le0 (by omega)).mpr q)
            have h39 : 0 < (qrl σ e) := Nat.pos_of_ne_zero h39
            have he7 := b_e7 e (by omega)
            refine lv_iconst (v := nI 1) hx hb dL_torn_42 (by decide) ?_
            refine lv_iload hx hb dL_torn_43 (lv_at hl 4 rfl) ?_
            refine lv_ishl hx hb dL_torn_45 ?_
            refine lv_topi (nm_r (e' := (nI (2 ^ e))) (b_one e (by omega)) ?_)
            refine lv_goto (tgt := 50) hx hb dL_torn_46 (by decide) ?_
            refine lv_topi (nm_r (e' := (nI (if bd σ e then 2 ^ e else 0))) (by rw [if_pos ⟨h24, h39⟩]) ?_)
            exact mg15
  exact loop5 (nE σ + 1) 0 0 (rfl) (by omega) (by omega) _ (lv_sub hl [2, 3, 4, 1, 0] rfl)
