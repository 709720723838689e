set_option maxHeartbeats 8000000 in
set_option maxRecDepth 100000 in
theorem ac_erase {pr : Program} {l : Launch} {en : Env} {st : State} {mi : MethodId} {ar : Array Value} {bl : List Frame} {me : Method} {cd : Code} {Q : State → Prop} {G : zG} {q : Nat → Nat} {ad : Nat → Nat → Nat} {σ : Nat → Nat} {T : Nat → Nat → Nat} {o n : Nat} {f : Nat → Int32} {x : Nat → Nat} {len : Nat} {N : Nat} {A0 : Nat → Prop} {H : Heap} {locs : List Loc} {ls : Array Slot} {v k d p : Nat} (C0 : AC pr st mi ar cd G) (hJ : Jv N σ o n) (hN : N + 1 < 100000) (hv : v < 10000000) (hk : k < nS σ) (hd4 : d < 4) (hp : p < 10) (hP : va_P G.1 vwCl ((wL G q σ) ++ wX G ad σ T o n f x len) H) (hD : va_D A0 ((wL G q σ) ++ wX G ad σ T o n f x len)) (hS : va_S A0 st.heap H locs) (hl : lv_has ls 43 [(0, .ref (ad 0 0)), (1, .ref (q 0)), (2, .ref (q 1)), (3, .ref (q 2)), (4, .ref (q 3)), (6, .int (nI v)), (8, .int (nI k)), (9, .int (nI d)), (10, .int (nI p)), (11, .int (nI (4 * k + d)))]) (hret : AR pr l en st mi ar bl me cd Q G q ad x len A0 (N + 1)) : W pr l en (zRm 7 176) st mi ar bl me cd H locs 0 0 Q (F0 mi 464 ls []) := by
  obtain ⟨hx, hb, hml, hown, hts, hG⟩ := id C0
  obtain ⟨hO, hC, ho, hn, hM⟩ := id hJ
  have hc := hO.c
  have hs := hO.lS
  have hne := hO.lE
  have hM6 := hM.s
  have hM7 := hM.e
  have hM4 := hM.r
  have hM1 := hM.1
  have hM2 := hM.2
  have hNN := hO.N
  have hg2 := hO.2.2.1
  have hg3 := hO.2.2.2.1
  have hk6 : k < 6 := by omega
  have hsg := hO.sg (show k < 36 by omega) hd4 hp
  have hal := aN_lt hO (show k < 36 by omega) hd4
  refine lv_aload_n hx hb dL_acts_464 rfl (lv_at hl 3 rfl) ?_
  refine lv_iload hx hb dL_acts_465 (lv_at hl 9 rfl) ?_
  refine va_lald hx hb hG.1 hP 2 3 rfl rfl (vp_in_nI (n := 4 * k + d) (N := 24) (by omega) (by omega)) dL_acts_467 ?_
  refine lv_topl (nm_r (e' := (lN (aN σ k d))) (by rw [nI_clamp (by omega)]; exact aF_at σ (by omega)) ?_)
  refine lv_lstore (lv' := [(21, .long (lN (aN σ k d))), (0, .ref (ad 0 0)), (1, .ref (q 0)), (2, .ref (q 1)), (3, .ref (q 2)), (4, .ref (q 3)), (6, .int (nI v)), (8, .int (nI k)), (9, .int (nI d)), (10, .int (nI p)), (11, .int (nI (4 * k + d)))]) hx hb dL_acts_468 hl (by decide) rfl (fun ls hl => ?_)
  refine lv_lload hx hb dL_acts_470 (lv_at hl 0 rfl) ?_
  refine lv_bipush (v := nI 11) hx hb dL_acts_472 (by decide) ?_
  refine lv_iload hx hb dL_acts_474 (lv_at hl 9 rfl) ?_
  refine zrdS (As := [.long (lN (aN σ k d)), .int (nI 11), .int (nI p)]) ⟨hx, hb, hml, hown, hts⟩ (kL_digit l G  (aN σ k d) 11 p (by omega) (by omega) (by omega) (by omega)) (va_cwS 3 hts gL_acts_L_digit rfl rfl rfl (by decide +kernel) ⟨Nat.le_of_ble_eq_true rfl, Nat.le_of_ble_eq_true rfl⟩) hG (trivial) rfl rfl hl.1 dL_acts_476 (Nat.le_of_ble_eq_true rfl) ⟨Nat.le_of_ble_eq_true rfl, Nat.le_of_ble_eq_true rfl⟩ ?_
  refine lv_topi (nm_r (e' := (nI (sgn σ k d p))) (congrArg nI (aN_dg hO (by omega) hd4 hp)) ?_)
  refine lv_istore (lv' := [(23, .int (nI (sgn σ k d p))), (21, .long (lN (aN σ k d))), (0, .ref (ad 0 0)), (1, .ref (q 0)), (2, .ref (q 1)), (3, .ref (q 2)), (4, .ref (q 3)), (6, .int (nI v)), (8, .int (nI k)), (9, .int (nI d)), (10, .int (nI p)), (11, .int (nI (4 * k + d)))]) hx hb dL_acts_479 hl (by decide) rfl (fun ls hl => ?_)
  refine lv_iload hx hb dL_acts_481 (lv_at hl 0 rfl) ?_
  refine lv_bipush (v := nI 10) hx hb dL_acts_483 (by decide) ?_
  refine lv_icmp_ne (tgt := 509) hx hb dL_acts_485 (by decide) (fun h485 => ?_) (fun h485 => ?_)
  · skip
    have h485 : ¬ ((sgn σ k d p) = 10) := fun q => h485 ((nI_eq (by omega) (by omega)).mpr q)
    refine lv_aload_n hx hb dL_acts_509 rfl (lv_at hl 5 rfl) ?_
    refine lv_iload hx hb dL_acts_510 (lv_at hl 11 rfl) ?_
    refine lv_dup2_11 hx hb dL_acts_512 rfl rfl ?_
    refine va_lald hx hb hG.1 hP 2 3 rfl rfl (vp_in_nI (n := 4 * k + d) (N := 24) (by omega) (by omega)) dL_acts_513 ?_
    refine lv_topl (nm_r (e' := (lN (aN σ k d))) (by rw [nI_clamp (by omega)]; exact aF_at σ (by omega)) ?_)
    refine lv_bipush (v := nI 10) hx hb dL_acts_514 (by decide) ?_
    refine lv_iload hx hb dL_acts_516 (lv_at hl 0 rfl) ?_
    refine lv_isub hx hb dL_acts_518 ?_
    refine lv_i2l hx hb dL_acts_519 rfl ?_
    refine lv_bipush (v := nI 11) hx hb dL_acts_520 (by decide) ?_
    refine lv_iload hx hb dL_acts_522 (lv_at hl 10 rfl) ?_
    refine zrdS (As := [.int (nI 11), .int (nI p)]) ⟨hx, hb, hml, hown, hts⟩ (kL_power l G  11 p (by omega) (by omega) (by omega)) (va_cwS 2 hts gL_acts_L_power rfl rfl rfl (by decide +kernel) ⟨Nat.le_of_ble_eq_true rfl, Nat.le_of_ble_eq_true rfl⟩) hG (trivial) rfl rfl hl.1 dL_acts_524 (Nat.le_of_ble_eq_true rfl) ⟨Nat.le_of_ble_eq_true rfl, Nat.le_of_ble_eq_true rfl⟩ ?_
    refine lv_lmul hx hb dL_acts_527 ?_
    refine lv_ladd hx hb dL_acts_528 ?_
    refine lv_topl (nm_r (e' := (lN (aN (su σ (64 + 53 * k + (10 * d + p)) 10) k d))) (zl_up (by omega) (by omega) (aN_up σ hp 10)) ?_)
    refine va_last hx hb hG.1 hP hD hS 2 3 rfl rfl (vp_in_nI (n := 4 * k + d) (N := 24) (by omega) (by omega)) dL_acts_529 (fun H locs hP hD hS => ?_)
    rw [nI_clamp (show 4 * k + d < 2 ^ 31 by omega)] at hP hD
    have hP : va_P G.1 vwCl ((wL0 G q (gF σ) (rF σ) (vp_updL (aF σ) (4 * k + d) (lN (aN (su σ (64 + 53 * k + (10 * d + p)) 10) k d))) (bF σ)) ++ wX G ad σ T o n f x len) H := hP
    have hD : va_D A0 ((wL0 G q (gF σ) (rF σ) (vp_updL (aF σ) (4 * k + d) (lN (aN (su σ (64 + 53 * k + (10 * d + p)) 10) k d))) (bF σ)) ++ wX G ad σ T o n f x len) := hD
    have hP : va_P G.1 vwCl ((wL G q (su σ (64 + 53 * k + (10 * d + p)) 10)) ++ wX G ad σ T o n f x len) H := wL_x (sg_g σ k d p 10) (sg_r σ hd4 hp 10) (sg_a σ hd4 hp 10) (sg_b σ hd4 hp 10) hP
    have hD : va_D A0 ((wL G q (su σ (64 + 53 * k + (10 * d + p)) 10)) ++ wX G ad σ T o n f x len) := wL_d hD
    obtain ⟨hT, hOwn⟩ : Ok N (su σ (64 + 53 * k + (10 * d + p)) 10) ∧ Own k σ (su σ (64 + 53 * k + (10 * d + p)) 10) := ⟨hO.su_sg (by omega) (by omega), own_sg σ hd4 hp 10⟩
    obtain ⟨R1, R2, R3, R4, R5, R6⟩ := rfs hO hT hN hC hM hk hOwn
    by_cases hrf : rfsd (su σ (64 + 53 * k + (10 * d + p)) 10) k
    · skip
      refine lv_aload_n hx hb dL_acts_530 rfl (lv_at hl 2 rfl) ?_
      refine lv_iload hx hb dL_acts_531 (lv_at hl 8 rfl) ?_
      refine lv_iload hx hb dL_acts_533 (lv_at hl 9 rfl) ?_
      refine lv_iload hx hb dL_acts_535 (lv_at hl 10 rfl) ?_
      refine zwrR (G := G) (w1 := (wL G q (su σ (64 + 53 * k + (10 * d + p)) 10))) (wc := wX G ad σ T o n f x len) (wc' := wX G ad σ (upT T ((o + n) % 5) σ) o n f x len) (va_runV (As := [.int (nI k), .int (nI d), .int (nI p)]) (rest := []) ⟨hx, hb, hml, hown, hts⟩ (kX4_erase_no l G ad σ T o n f x len k d p (hO) (by omega) (by omega) (by omega) (by omega) (by omega) (h485) (hrf) (zD_any (zD_r hD))) (cwV 3 hts gL_acts_X4_erase rfl rfl rfl (by decide +kernel) ⟨Nat.le_of_ble_eq_true rfl, Nat.le_of_ble_eq_true rfl⟩) (zPreV hG (va_recv (q0 := 0) (ci := 4) hG.1 (zP_r hP) rfl rfl) (zP_r hP)) rfl rfl hl.1 rfl (lv_room (Nat.le_of_ble_eq_true rfl)) dL_acts_537 ⟨Nat.le_of_ble_eq_true rfl, Nat.le_of_ble_eq_true rfl⟩) hP hD hS (wX_map ..) (fun H locs hP hD hS => ?_)
      refine lv_aload_n hx hb dL_acts_540 rfl (lv_at hl 3 rfl) ?_
      refine lv_aload_n hx hb dL_acts_541 rfl (lv_at hl 4 rfl) ?_
      refine lv_aload_n hx hb dL_acts_542 rfl (lv_at hl 5 rfl) ?_
      refine lv_aload hx hb dL_acts_543 (lv_at hl 6 rfl) ?_
      refine lv_iload hx hb dL_acts_545 (lv_at hl 8 rfl) ?_
      refine lv_iload hx hb dL_acts_547 (lv_at hl 11 rfl) ?_
      refine lv_lload hx hb dL_acts_549 (lv_at hl 1 rfl) ?_
      refine lv_iconst (v := nI 0) hx hb dL_acts_551 (by decide) ?_
      refine zwrL (G := G) (wc := (wL G q (su σ (64 + 53 * k + (10 * d + p)) 10))) (wc' := (wL G q σ)) (w2 := wX G ad σ (upT T ((o + n) % 5) σ) o n f x len) (va_runS (As := [.ref (q 0), .ref (q 1), .ref (q 2), .ref (q 3), .int (nI k), .int (nI (4 * k + d)), .long (lN (aN σ k d)), .int (nI 0)]) (rest := [.int (-2)]) ⟨hx, hb, hml, hown, hts⟩ (kL_keeps_no l G q (su σ (64 + 53 * k + (10 * d + p)) 10) σ k (4 * k + d) (aN σ k d) hT R6 (by omega) (R1.mp hrf).1 (R1.mp hrf).2 (fun j hj => (sg_g σ k d p 10 j hj).symm) (fun j hj => (sg_r σ hd4 hp 10 j hj).symm) (sg_back σ hd4 hp 10) (fun j hj => (sg_b σ hd4 hp 10 j hj).symm) (by omega) (zD_any (zD_l hD)) ) (va_cwS 8 hts gL_acts_L_keeps rfl rfl rfl (by decide +kernel) ⟨Nat.le_of_ble_eq_true rfl, Nat.le_of_ble_eq_true rfl⟩) (zPre hG (zP_l hP)) rfl rfl hl.1 rfl (lv_room (Nat.le_of_ble_eq_true rfl)) dL_acts_552 ⟨Nat.le_of_ble_eq_true rfl, Nat.le_of_ble_eq_true rfl⟩) hP hD hS rfl (fun H locs hP hD hS => ?_)
      refine lv_if_eq (tgt := 563) hx hb dL_acts_555 (by decide) (fun h555 => ?_) (fun h555 => ?_)
      · skip
        have h555 : 0 = 0 := (z_eq0 (by omega)).mp h555
        refine lv_bipush (v := (-2)) hx hb dL_acts_563 (by decide) ?_
        refine lv_icmp_ne (tgt := 572) hx hb dL_acts_565 (by decide) (fun h565 => ?_) (fun h565 => ?_)
        · skip
          exact absurd rfl h565
        · skip
          refine lv_iconst (v := nI 1) hx hb dL_acts_568 (by decide) ?_
          refine lv_goto (tgt := 573) hx hb dL_acts_569 (by decide) ?_
          exact hret _ _ _ _ _ _ _ _ _ dL_acts_573 hS (⟨hO.up hN, hC, ho, hn, hM⟩) hP
      · skip
        have h555 : ¬ (0 = 0) := fun q => h555 ((z_eq0 (by omega)).mpr q)
        have h555 : 0 < 0 := Nat.pos_of_ne_zero h555
        exfalso; omega
    · skip
      refine lv_aload_n hx hb dL_acts_530 rfl (lv_at hl 2 rfl) ?_
      refine lv_iload hx hb dL_acts_531 (lv_at hl 8 rfl) ?_
      refine lv_iload hx hb dL_acts_533 (lv_at hl 9 rfl) ?_
      refine lv_iload hx hb dL_acts_535 (lv_at hl 10 rfl) ?_
      refine zwrR (G := G) (w1 := (wL G q (su σ (64 + 53 * k + (10 * d + p)) 10))) (wc := wX G ad σ T o n f x len) (wc' := wX G ad (endS (su σ (64 + 53 * k + (10 * d + p)) 10) k) (upT T ((o + n) % 5) σ) (nO o n) (nN n) f x len) (va_runV (As := [.int (nI k), .int (nI d), .int (nI p)]) (rest := []) ⟨hx, hb, hml, hown, hts⟩ (kX4_erase_ok l G ad σ T o n f x len k d p (hO) (by omega) (by omega) (by omega) (by omega) (by omega) (h485) (hrf) (zD_any (zD_r hD))) (cwV 3 hts gL_acts_X4_erase rfl rfl rfl (by decide +kernel) ⟨Nat.le_of_ble_eq_true rfl, Nat.le_of_ble_eq_true rfl⟩) (zPreV hG (va_recv (q0 := 0) (ci := 4) hG.1 (zP_r hP) rfl rfl) (zP_r hP)) rfl rfl hl.1 rfl (lv_room (Nat.le_of_ble_eq_true rfl)) dL_acts_537 ⟨Nat.le_of_ble_eq_true rfl, Nat.le_of_ble_eq_true rfl⟩) hP hD hS (wX_map ..) (fun H locs hP hD hS => ?_)
      refine lv_aload_n hx hb dL_acts_540 rfl (lv_at hl 3 rfl) ?_
      refine lv_aload_n hx hb dL_acts_541 rfl (lv_at hl 4 rfl) ?_
      refine lv_aload_n hx hb dL_acts_542 rfl (lv_at hl 5 rfl) ?_
      refine lv_aload hx hb dL_acts_543 (lv_at hl 6 rfl) ?_
      refine lv_iload hx hb dL_acts_545 (lv_at hl 8 rfl) ?_
      refine lv_iload hx hb dL_acts_547 (lv_at hl 11 rfl) ?_
      refine lv_lload hx hb dL_acts_549 (lv_at hl 1 rfl) ?_
      refine lv_iconst (v := nI 0) hx hb dL_acts_551 (by decide) ?_
      refine zwrL (G := G) (wc := (wL G q (su σ (64 + 53 * k + (10 * d + p)) 10))) (wc' := (wL G q (kpS (su σ (64 + 53 * k + (10 * d + p)) 10) k))) (w2 := wX G ad (endS (su σ (64 + 53 * k + (10 * d + p)) 10) k) (upT T ((o + n) % 5) σ) (nO o n) (nN n) f x len) (va_runS (As := [.ref (q 0), .ref (q 1), .ref (q 2), .ref (q 3), .int (nI k), .int (nI (4 * k + d)), .long (lN (aN σ k d)), .int (nI 0)]) (rest := [.int (nI (sgn σ k d p))]) ⟨hx, hb, hml, hown, hts⟩ (kL_keeps_ok l G q (su σ (64 + 53 * k + (10 * d + p)) 10) k (4 * k + d) (aN σ k d) 0 hT R6 (by omega) (fun z => hrf (R1.mpr z)) (zD_any (zD_l hD)) ) (va_cwS 8 hts gL_acts_L_keeps rfl rfl rfl (by decide +kernel) ⟨Nat.le_of_ble_eq_true rfl, Nat.le_of_ble_eq_true rfl⟩) (zPre hG (zP_l hP)) rfl rfl hl.1 rfl (lv_room (Nat.le_of_ble_eq_true rfl)) dL_acts_552 ⟨Nat.le_of_ble_eq_true rfl, Nat.le_of_ble_eq_true rfl⟩) hP hD hS rfl (fun H locs hP hD hS => ?_)
      rw [← R2] at hP hD
      refine lv_if_eq (tgt := 563) hx hb dL_acts_555 (by decide) (fun h555 => ?_) (fun h555 => ?_)
      · skip
        have h555 : 1 = 0 := (z_eq0 (by omega)).mp h555
        exfalso; omega
      · skip
        have h555 : ¬ (1 = 0) := fun q => h555 ((z_eq0 (by omega)).mpr q)
        have h555 : 0 < 1 := Nat.pos_of_ne_zero h555
        refine lv_iload hx hb dL_acts_558 (lv_at hl 0 rfl) ?_
        refine lv_goto (tgt := 565) hx hb dL_acts_560 (by decide) ?_
        refine lv_icmp_ne (tgt := 572) hx hb dL_acts_565 (by decide) (fun h565 => ?_) (fun h565 => ?_)
        · skip
          exact absurd rfl h565
        · skip
          refine lv_iconst (v := nI 1) hx hb dL_acts_568 (by decide) ?_
          refine lv_goto (tgt := 573) hx hb dL_acts_569 (by decide) ?_
          exact hret _ _ _ _ _ _ _ _ _ dL_acts_573 hS (⟨R4, R3, jO ho, jN hn, R5⟩) hP
  · skip
    have h485 : (sgn σ k d p) = 10 := (nI_eq (by omega) (by omega)).mp h485
    refine lv_aload_n hx hb dL_acts_488 rfl (lv_at hl 2 rfl) ?_
    refine lv_iload hx hb dL_acts_489 (lv_at hl 8 rfl) ?_
    refine lv_iload hx hb dL_acts_491 (lv_at hl 9 rfl) ?_
    refine lv_iload hx hb dL_acts_493 (lv_at hl 10 rfl) ?_
    refine zwrR (G := G) (w1 := (wL G q σ)) (wc := wX G ad σ T o n f x len) (wc' := wX G ad σ T o n f x len) (va_runV (As := [.int (nI k), .int (nI d), .int (nI p)]) (rest := []) ⟨hx, hb, hml, hown, hts⟩ (kX4_erase_none l G ad σ T o n f x len k d p (hO) (by omega) (by omega) (by omega) (by omega) (by omega) (h485) (zD_any (zD_r hD))) (cwV 3 hts gL_acts_X4_erase rfl rfl rfl (by decide +kernel) ⟨Nat.le_of_ble_eq_true rfl, Nat.le_of_ble_eq_true rfl⟩) (zPreV hG (va_recv (q0 := 0) (ci := 4) hG.1 (zP_r hP) rfl rfl) (zP_r hP)) rfl rfl hl.1 rfl (lv_room (Nat.le_of_ble_eq_true rfl)) dL_acts_495 ⟨Nat.le_of_ble_eq_true rfl, Nat.le_of_ble_eq_true rfl⟩) hP hD hS (wX_map ..) (fun H locs hP hD hS => ?_)
    refine lv_bipush (v := (-2)) hx hb dL_acts_498 (by decide) ?_
    refine lv_icmp_ne (tgt := 507) hx hb dL_acts_500 (by decide) (fun h500 => ?_) (fun h500 => ?_)
    · skip
      exact absurd rfl h500
    · skip
      refine lv_iconst (v := nI 1) hx hb dL_acts_503 (by decide) ?_
      refine lv_goto (tgt := 508) hx hb dL_acts_504 (by decide) ?_
      exact hret _ _ _ _ _ _ _ _ _ dL_acts_508 hS (⟨hO.up hN, hC, ho, hn, hM⟩) hP
