set_option maxHeartbeats 8000000 in
set_option maxRecDepth 100000 in
theorem ac_mean {pr : Program} {l : Launch} {en : Env} {st : State} {mi : MethodId} {ar : Array Value} {bl : List Frame} {me : Method} {cd : Code} {Q : State → Prop} {G : zG} {q : Nat → Nat} {ad : Nat → Nat → Nat} {σ : Nat → Nat} {T : Nat → Nat → Nat} {o n : Nat} {f : Nat → Int32} {x : Nat → Nat} {len : Nat} {N : Nat} {A0 : Nat → Prop} {H : Heap} {locs : List Loc} {ls : Array Slot} {v k : Nat} (C0 : AC pr st mi ar cd G) (hJ : Jv N σ o n) (hN : N + 1 < 100000) (hv : v < 10000000) (hk : k < nS σ) (hP : va_P G.1 vwCl ((wL G q σ) ++ wX G ad σ T o n f x len) H) (hD : va_D A0 ((wL G q σ) ++ wX G ad σ T o n f x len)) (hS : va_S A0 st.heap H locs) (hl : lv_has ls 43 [(0, .ref (ad 0 0)), (1, .ref (q 0)), (2, .ref (q 1)), (3, .ref (q 2)), (4, .ref (q 3)), (6, .int (nI v)), (8, .int (nI k))]) (hret : AR pr l en st mi ar bl me cd Q G q ad x len A0 (N + 1)) : W pr l en (zRm 7 176) st mi ar bl me cd H locs 0 0 Q (F0 mi 574 ls []) := by
  obtain ⟨hx, hb, hml, hown, hts, hG⟩ := id C0
  obtain ⟨hO, hC, ho, hn, hM⟩ := id hJ
  have hc := hO.c
  have hs := hO.lS
  have hne := hO.lE
  have hM6 := hM.s
  have hM7 := hM.e
  have hM4 := hM.r
  have hM1 := hM.1
  have hM2 := hM.2
  have hNN := hO.N
  have hg2 := hO.2.2.1
  have hg3 := hO.2.2.2.1
  have hk6 : k < 6 := by omega
  have hbl := bN_lt hO (show k < 36 by omega)
  refine lv_iload hx hb dL_acts_574 (lv_at hl 5 rfl) ?_
  refine lv_bipush (v := nI 6) hx hb dL_acts_576 (by decide) ?_
  refine lv_idiv hx hb dL_acts_578 (nI_ne0 (by omega) (by omega)) ?_
  refine lv_topi (nm_r (e' := nI (v / 6)) (pk_div (by omega) (by omega) (by omega)) ?_)
  refine lv_bipush (v := nI 10) hx hb dL_acts_579 (by decide) ?_
  obtain ⟨c, hcv⟩ : ∃ c, c = v / 6 % 10 := ⟨_, rfl⟩
  have hc10 : c < 10 := by omega
  have hmg := hO.mg (show k < 36 by omega) hc10
  obtain ⟨sw, hsw⟩ : ∃ sw, sw = v / 60 % 4 := ⟨_, rfl⟩
  have hsw10 : sw < 10 := by omega
  refine lv_irem hx hb dL_acts_581 (nI_ne0 (by omega) (by omega)) ?_
  refine lv_topi (nm_r (e' := nI ((v / 6) % 10)) (pk_rem (by omega) (by omega) (by omega)) ?_)
  refine lv_topi (nm_r (e' := (nI c)) (by rw [hcv]) ?_)
  refine lv_istore (lv' := [(24, .int (nI c)), (0, .ref (ad 0 0)), (1, .ref (q 0)), (2, .ref (q 1)), (3, .ref (q 2)), (4, .ref (q 3)), (6, .int (nI v)), (8, .int (nI k))]) hx hb dL_acts_582 hl (by decide) rfl (fun ls hl => ?_)
  refine lv_aload hx hb dL_acts_584 (lv_at hl 5 rfl) ?_
  refine lv_iload hx hb dL_acts_586 (lv_at hl 7 rfl) ?_
  refine va_lald hx hb hG.1 hP 3 3 rfl rfl (vp_in_nI (n := k) (N := 6) (by omega) (by omega)) dL_acts_588 ?_
  refine lv_topl (nm_r (e' := (lN (bN σ k))) (by rw [nI_clamp (by omega)]; rfl) ?_)
  refine lv_lstore (lv' := [(25, .long (lN (bN σ k))), (24, .int (nI c)), (0, .ref (ad 0 0)), (1, .ref (q 0)), (2, .ref (q 1)), (3, .ref (q 2)), (4, .ref (q 3)), (6, .int (nI v)), (8, .int (nI k))]) hx hb dL_acts_589 hl (by decide) rfl (fun ls hl => ?_)
  refine lv_lload hx hb dL_acts_591 (lv_at hl 0 rfl) ?_
  refine lv_bipush (v := nI 10) hx hb dL_acts_593 (by decide) ?_
  refine lv_iload hx hb dL_acts_595 (lv_at hl 1 rfl) ?_
  refine zrdS (As := [.long (lN (bN σ k)), .int (nI 10), .int (nI c)]) ⟨hx, hb, hml, hown, hts⟩ (kL_digit l G  (bN σ k) 10 c (by omega) (by omega) (by omega) (by omega)) (va_cwS 3 hts gL_acts_L_digit rfl rfl rfl (by decide +kernel) ⟨Nat.le_of_ble_eq_true rfl, Nat.le_of_ble_eq_true rfl⟩) hG (trivial) rfl rfl hl.1 dL_acts_597 (Nat.le_of_ble_eq_true rfl) ⟨Nat.le_of_ble_eq_true rfl, Nat.le_of_ble_eq_true rfl⟩ ?_
  refine lv_topi (nm_r (e' := (nI (mng σ k c))) (congrArg nI (bN_dg hO (by omega) hc10)) ?_)
  refine lv_istore (lv' := [(27, .int (nI (mng σ k c))), (25, .long (lN (bN σ k))), (24, .int (nI c)), (0, .ref (ad 0 0)), (1, .ref (q 0)), (2, .ref (q 1)), (3, .ref (q 2)), (4, .ref (q 3)), (6, .int (nI v)), (8, .int (nI k))]) hx hb dL_acts_600 hl (by decide) rfl (fun ls hl => ?_)
  refine lv_aload hx hb dL_acts_602 (lv_at hl 7 rfl) ?_
  refine lv_iload hx hb dL_acts_604 (lv_at hl 9 rfl) ?_
  refine lv_dup2_11 hx hb dL_acts_606 rfl rfl ?_
  refine va_lald hx hb hG.1 hP 3 3 rfl rfl (vp_in_nI (n := k) (N := 6) (by omega) (by omega)) dL_acts_607 ?_
  refine lv_topl (nm_r (e' := (lN (bN σ k))) (by rw [nI_clamp (by omega)]; rfl) ?_)
  refine lv_iload hx hb dL_acts_608 (lv_at hl 8 rfl) ?_
  refine lv_bipush (v := nI 60) hx hb dL_acts_610 (by decide) ?_
  refine lv_idiv hx hb dL_acts_612 (nI_ne0 (by omega) (by omega)) ?_
  refine lv_topi (nm_r (e' := nI (v / 60)) (pk_div (by omega) (by omega) (by omega)) ?_)
  refine lv_iconst (v := nI 4) hx hb dL_acts_613 (by decide) ?_
  refine lv_irem hx hb dL_acts_614 (nI_ne0 (by omega) (by omega)) ?_
  refine lv_topi (nm_r (e' := nI ((v / 60) % 4)) (pk_rem (by omega) (by omega) (by omega)) ?_)
  refine lv_topi (nm_r (e' := (nI sw)) (by rw [hsw]) ?_)
  refine lv_iload hx hb dL_acts_615 (lv_at hl 0 rfl) ?_
  refine lv_isub hx hb dL_acts_617 ?_
  refine lv_i2l hx hb dL_acts_618 rfl ?_
  refine lv_bipush (v := nI 10) hx hb dL_acts_619 (by decide) ?_
  refine lv_iload hx hb dL_acts_621 (lv_at hl 2 rfl) ?_
  refine zrdS (As := [.int (nI 10), .int (nI c)]) ⟨hx, hb, hml, hown, hts⟩ (kL_power l G  10 c (by omega) (by omega) (by omega)) (va_cwS 2 hts gL_acts_L_power rfl rfl rfl (by decide +kernel) ⟨Nat.le_of_ble_eq_true rfl, Nat.le_of_ble_eq_true rfl⟩) hG (trivial) rfl rfl hl.1 dL_acts_623 (Nat.le_of_ble_eq_true rfl) ⟨Nat.le_of_ble_eq_true rfl, Nat.le_of_ble_eq_true rfl⟩ ?_
  refine lv_lmul hx hb dL_acts_626 ?_
  refine lv_ladd hx hb dL_acts_627 ?_
  refine lv_topl (nm_r (e' := (lN (bN (su σ (104 + 53 * k + c) sw) k))) (zl_up (by omega) (by omega) (bN_up σ hc10 sw)) ?_)
  refine va_last hx hb hG.1 hP hD hS 3 3 rfl rfl (vp_in_nI (n := k) (N := 6) (by omega) (by omega)) dL_acts_628 (fun H locs hP hD hS => ?_)
  rw [nI_clamp (show k < 2 ^ 31 by omega)] at hP hD
  have hP : va_P G.1 vwCl ((wL0 G q (gF σ) (rF σ) (aF σ) (vp_updL (bF σ) k (lN (bN (su σ (104 + 53 * k + c) sw) k)))) ++ wX G ad σ T o n f x len) H := hP
  have hD : va_D A0 ((wL0 G q (gF σ) (rF σ) (aF σ) (vp_updL (bF σ) k (lN (bN (su σ (104 + 53 * k + c) sw) k)))) ++ wX G ad σ T o n f x len) := hD
  have hP : va_P G.1 vwCl ((wL G q (su σ (104 + 53 * k + c) sw)) ++ wX G ad σ T o n f x len) H := wL_x (mn_g σ k c sw) (mn_r σ hc10 sw) (mn_a σ hc10 sw) (mn_b σ hc10 sw) hP
  have hD : va_D A0 ((wL G q (su σ (104 + 53 * k + c) sw)) ++ wX G ad σ T o n f x len) := wL_d hD
  obtain ⟨hT, hOwn⟩ : Ok N (su σ (104 + 53 * k + c) sw) ∧ Own k σ (su σ (104 + 53 * k + c) sw) := ⟨hO.su_mn (by omega) (by omega), own_mn σ hc10 sw⟩
  obtain ⟨R1, R2, R3, R4, R5, R6⟩ := rfs hO hT hN hC hM hk hOwn
  by_cases hrf : rfsd (su σ (104 + 53 * k + c) sw) k
  · skip
    refine lv_aload_n hx hb dL_acts_629 rfl (lv_at hl 3 rfl) ?_
    refine lv_iload hx hb dL_acts_630 (lv_at hl 9 rfl) ?_
    refine lv_iload hx hb dL_acts_632 (lv_at hl 2 rfl) ?_
    refine lv_iload hx hb dL_acts_634 (lv_at hl 8 rfl) ?_
    refine lv_bipush (v := nI 60) hx hb dL_acts_636 (by decide) ?_
    refine lv_idiv hx hb dL_acts_638 (nI_ne0 (by omega) (by omega)) ?_
    refine lv_topi (nm_r (e' := nI (v / 60)) (pk_div (by omega) (by omega) (by omega)) ?_)
    refine lv_iconst (v := nI 4) hx hb dL_acts_639 (by decide) ?_
    refine lv_irem hx hb dL_acts_640 (nI_ne0 (by omega) (by omega)) ?_
    refine lv_topi (nm_r (e' := nI ((v / 60) % 4)) (pk_rem (by omega) (by omega) (by omega)) ?_)
    refine lv_topi (nm_r (e' := (nI sw)) (by rw [hsw]) ?_)
    refine zwrR (G := G) (w1 := (wL G q (su σ (104 + 53 * k + c) sw))) (wc := wX G ad σ T o n f x len) (wc' := wX G ad σ (upT T ((o + n) % 5) σ) o n f x len) (va_runV (As := [.int (nI k), .int (nI c), .int (nI sw)]) (rest := []) ⟨hx, hb, hml, hown, hts⟩ (kX4_mean_no l G ad σ T o n f x len k c sw (hO) (by omega) (by omega) (by omega) (by omega) (by omega) (hrf) (zD_any (zD_r hD))) (cwV 3 hts gL_acts_X4_mean rfl rfl rfl (by decide +kernel) ⟨Nat.le_of_ble_eq_true rfl, Nat.le_of_ble_eq_true rfl⟩) (zPreV hG (va_recv (q0 := 0) (ci := 4) hG.1 (zP_r hP) rfl rfl) (zP_r hP)) rfl rfl hl.1 rfl (lv_room (Nat.le_of_ble_eq_true rfl)) dL_acts_641 ⟨Nat.le_of_ble_eq_true rfl, Nat.le_of_ble_eq_true rfl⟩) hP hD hS (wX_map ..) (fun H locs hP hD hS => ?_)
    refine lv_aload_n hx hb dL_acts_644 rfl (lv_at hl 4 rfl) ?_
    refine lv_aload_n hx hb dL_acts_645 rfl (lv_at hl 5 rfl) ?_
    refine lv_aload_n hx hb dL_acts_646 rfl (lv_at hl 6 rfl) ?_
    refine lv_aload hx hb dL_acts_647 (lv_at hl 7 rfl) ?_
    refine lv_iload hx hb dL_acts_649 (lv_at hl 9 rfl) ?_
    refine lv_iconst (v := nI 0) hx hb dL_acts_651 (by decide) ?_
    refine lv_lload hx hb dL_acts_652 (lv_at hl 1 rfl) ?_
    refine lv_iconst (v := nI 1) hx hb dL_acts_654 (by decide) ?_
    refine zwrL (G := G) (wc := (wL G q (su σ (104 + 53 * k + c) sw))) (wc' := (wL G q σ)) (w2 := wX G ad σ (upT T ((o + n) % 5) σ) o n f x len) (va_runS (As := [.ref (q 0), .ref (q 1), .ref (q 2), .ref (q 3), .int (nI k), .int (nI 0), .long (lN (bN σ k)), .int (nI 1)]) (rest := [.int (-2)]) ⟨hx, hb, hml, hown, hts⟩ (kL_keeps_nom l G q (su σ (104 + 53 * k + c) sw) σ k (bN σ k) hT R6 (by omega) (R1.mp hrf).1 (R1.mp hrf).2 (fun j hj => (mn_g σ k c sw j hj).symm) (fun j hj => (mn_r σ hc10 sw j hj).symm) (fun j hj => (mn_a σ hc10 sw j hj).symm) (mn_back σ hc10 sw) (zD_any (zD_l hD)) ) (va_cwS 8 hts gL_acts_L_keeps rfl rfl rfl (by decide +kernel) ⟨Nat.le_of_ble_eq_true rfl, Nat.le_of_ble_eq_true rfl⟩) (zPre hG (zP_l hP)) rfl rfl hl.1 rfl (lv_room (Nat.le_of_ble_eq_true rfl)) dL_acts_655 ⟨Nat.le_of_ble_eq_true rfl, Nat.le_of_ble_eq_true rfl⟩) hP hD hS rfl (fun H locs hP hD hS => ?_)
    refine lv_if_eq (tgt := 666) hx hb dL_acts_658 (by decide) (fun h658 => ?_) (fun h658 => ?_)
    · skip
      have h658 : 0 = 0 := (z_eq0 (by omega)).mp h658
      refine lv_bipush (v := (-2)) hx hb dL_acts_666 (by decide) ?_
      refine lv_icmp_ne (tgt := 675) hx hb dL_acts_668 (by decide) (fun h668 => ?_) (fun h668 => ?_)
      · skip
        exact absurd rfl h668
      · skip
        refine lv_iconst (v := nI 1) hx hb dL_acts_671 (by decide) ?_
        refine lv_goto (tgt := 676) hx hb dL_acts_672 (by decide) ?_
        exact hret _ _ _ _ _ _ _ _ _ dL_acts_676 hS (⟨hO.up hN, hC, ho, hn, hM⟩) hP
    · skip
      have h658 : ¬ (0 = 0) := fun q => h658 ((z_eq0 (by omega)).mpr q)
      have h658 : 0 < 0 := Nat.pos_of_ne_zero h658
      exfalso; omega
  · skip
    refine lv_aload_n hx hb dL_acts_629 rfl (lv_at hl 3 rfl) ?_
    refine lv_iload hx hb dL_acts_630 (lv_at hl 9 rfl) ?_
    refine lv_iload hx hb dL_acts_632 (lv_at hl 2 rfl) ?_
    refine lv_iload hx hb dL_acts_634 (lv_at hl 8 rfl) ?_
    refine lv_bipush (v := nI 60) hx hb dL_acts_636 (by decide) ?_
    refine lv_idiv hx hb dL_acts_638 (nI_ne0 (by omega) (by omega)) ?_
    refine lv_topi (nm_r (e' := nI (v / 60)) (pk_div (by omega) (by omega) (by omega)) ?_)
    refine lv_iconst (v := nI 4) hx hb dL_acts_639 (by decide) ?_
    refine lv_irem hx hb dL_acts_640 (nI_ne0 (by omega) (by omega)) ?_
    refine lv_topi (nm_r (e' := nI ((v / 60) % 4)) (pk_rem (by omega) (by omega) (by omega)) ?_)
    refine lv_topi (nm_r (e' := (nI sw)) (by rw [hsw]) ?_)
    refine zwrR (G := G) (w1 := (wL G q (su σ (104 + 53 * k + c) sw))) (wc := wX G ad σ T o n f x len) (wc' := wX G ad (endS (su σ (104 + 53 * k + c) sw) k) (upT T ((o + n) % 5) σ) (nO o n) (nN n) f x len) (va_runV (As := [.int (nI k), .int (nI c), .int (nI sw)]) (rest := []) ⟨hx, hb, hml, hown, hts⟩ (kX4_mean_ok l G ad σ T o n f x len k c sw (hO) (by omega) (by omega) (by omega) (by omega) (by omega) (hrf) (zD_any (zD_r hD))) (cwV 3 hts gL_acts_X4_mean rfl rfl rfl (by decide +kernel) ⟨Nat.le_of_ble_eq_true rfl, Nat.le_of_ble_eq_true rfl⟩) (zPreV hG (va_recv (q0 := 0) (ci := 4) hG.1 (zP_r hP) rfl rfl) (zP_r hP)) rfl rfl hl.1 rfl (lv_room (Nat.le_of_ble_eq_true rfl)) dL_acts_641 ⟨Nat.le_of_ble_eq_true rfl, Nat.le_of_ble_eq_true rfl⟩) hP hD hS (wX_map ..) (fun H locs hP hD hS => ?_)
    refine lv_aload_n hx hb dL_acts_644 rfl (lv_at hl 4 rfl) ?_
    refine lv_aload_n hx hb dL_acts_645 rfl (lv_at hl 5 rfl) ?_
    refine lv_aload_n hx hb dL_acts_646 rfl (lv_at hl 6 rfl) ?_
    refine lv_aload hx hb dL_acts_647 (lv_at hl 7 rfl) ?_
    refine lv_iload hx hb dL_acts_649 (lv_at hl 9 rfl) ?_
    refine lv_iconst (v := nI 0) hx hb dL_acts_651 (by decide) ?_
    refine lv_lload hx hb dL_acts_652 (lv_at hl 1 rfl) ?_
    refine lv_iconst (v := nI 1) hx hb dL_acts_654 (by decide) ?_
    refine zwrL (G := G) (wc := (wL G q (su σ (104 + 53 * k + c) sw))) (wc' := (wL G q (kpS (su σ (104 + 53 * k + c) sw) k))) (w2 := wX G ad (endS (su σ (104 + 53 * k + c) sw) k) (upT T ((o + n) % 5) σ) (nO o n) (nN n) f x len) (va_runS (As := [.ref (q 0), .ref (q 1), .ref (q 2), .ref (q 3), .int (nI k), .int (nI 0), .long (lN (bN σ k)), .int (nI 1)]) (rest := [.int (nI (mng σ k c))]) ⟨hx, hb, hml, hown, hts⟩ (kL_keeps_ok l G q (su σ (104 + 53 * k + c) sw) k 0 (bN σ k) 1 hT R6 (by omega) (fun z => hrf (R1.mpr z)) (zD_any (zD_l hD)) ) (va_cwS 8 hts gL_acts_L_keeps rfl rfl rfl (by decide +kernel) ⟨Nat.le_of_ble_eq_true rfl, Nat.le_of_ble_eq_true rfl⟩) (zPre hG (zP_l hP)) rfl rfl hl.1 rfl (lv_room (Nat.le_of_ble_eq_true rfl)) dL_acts_655 ⟨Nat.le_of_ble_eq_true rfl, Nat.le_of_ble_eq_true rfl⟩) hP hD hS rfl (fun H locs hP hD hS => ?_)
    rw [← R2] at hP hD
    refine lv_if_eq (tgt := 666) hx hb dL_acts_658 (by decide) (fun h658 => ?_) (fun h658 => ?_)
    · skip
      have h658 : 1 = 0 := (z_eq0 (by omega)).mp h658
      exfalso; omega
    · skip
      have h658 : ¬ (1 = 0) := fun q => h658 ((z_eq0 (by omega)).mpr q)
      have h658 : 0 < 1 := Nat.pos_of_ne_zero h658
      refine lv_iload hx hb dL_acts_661 (lv_at hl 0 rfl) ?_
      refine lv_goto (tgt := 668) hx hb dL_acts_663 (by decide) ?_
      refine lv_icmp_ne (tgt := 675) hx hb dL_acts_668 (by decide) (fun h668 => ?_) (fun h668 => ?_)
      · skip
        exact absurd rfl h668
      · skip
        refine lv_iconst (v := nI 1) hx hb dL_acts_671 (by decide) ?_
        refine lv_goto (tgt := 676) hx hb dL_acts_672 (by decide) ?_
        exact hret _ _ _ _ _ _ _ _ _ dL_acts_676 hS (⟨R4, R3, jO ho, jN hn, R5⟩) hP
