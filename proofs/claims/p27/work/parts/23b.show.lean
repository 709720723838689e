set_option maxHeartbeats 8000000 in
set_option maxRecDepth 100000 in
theorem ac_show {pr : Program} {l : Launch} {en : Env} {st : State} {mi : MethodId} {ar : Array Value} {bl : List Frame} {me : Method} {cd : Code} {Q : State → Prop} {G : zG} {q : Nat → Nat} {ad : Nat → Nat → Nat} {σ : Nat → Nat} {T : Nat → Nat → Nat} {o n : Nat} {f : Nat → Int32} {x : Nat → Nat} {len : Nat} {N : Nat} {A0 : Nat → Prop} {H : Heap} {locs : List Loc} {ls : Array Slot} {v k d p : Nat} (C0 : AC pr st mi ar cd G) (hJ : Jv N σ o n) (hN : N + 1 < 100000) (hv : v < 10000000) (hk : k < nS σ) (hd4 : d < 4) (hp : p < 10) (hP : va_P G.1 vwCl ((wL G q σ) ++ wX G ad σ T o n f x len) H) (hD : va_D A0 ((wL G q σ) ++ wX G ad σ T o n f x len)) (hS : va_S A0 st.heap H locs) (hl : lv_has ls 43 [(0, .ref (ad 0 0)), (1, .ref (q 0)), (2, .ref (q 1)), (3, .ref (q 2)), (4, .ref (q 3)), (6, .int (nI v)), (8, .int (nI k)), (9, .int (nI d)), (10, .int (nI p)), (11, .int (nI (4 * k + d)))]) (hret : AR pr l en st mi ar bl me cd Q G q ad x len A0 (N + 1)) : W pr l en (zRm 7 176) st mi ar bl me cd H locs 0 0 Q (F0 mi 358 ls []) := by
  obtain ⟨hx, hb, hml, hown, hts, hG⟩ := id C0
  obtain ⟨hO, hC, ho, hn, hM⟩ := id hJ
  have hc := hO.c
  have hs := hO.lS
  have hne := hO.lE
  have hM6 := hM.s
  have hM7 := hM.e
  have hM4 := hM.r
  have hM1 := hM.1
  have hM2 := hM.2
  have hNN := hO.N
  have hg2 := hO.2.2.1
  have hg3 := hO.2.2.2.1
  have hk6 : k < 6 := by omega
  have hsg := hO.sg (show k < 36 by omega) hd4 hp
  have hal := aN_lt hO (show k < 36 by omega) hd4
  refine lv_iload hx hb dL_acts_358 (lv_at hl 5 rfl) ?_
  refine lv_sipush (v := nI 240) hx hb dL_acts_360 (by decide) ?_
  refine lv_idiv hx hb dL_acts_363 (nI_ne0 (by omega) (by omega)) ?_
  refine lv_topi (nm_r (e' := nI (v / 240)) (pk_div (by omega) (by omega) (by omega)) ?_)
  have hm10 : 1 ≤ (if v % 3 = 0 then 10 else 3) ∧ (if v % 3 = 0 then 10 else 3) ≤ 10 := by by_cases z : v % 3 = 0 <;> simp [z]
  obtain ⟨m3, hm3⟩ : ∃ m3, m3 = (if v % 3 = 0 then 10 else 3) := ⟨_, rfl⟩
  rw [← hm3] at hm10
  have mg364 : W pr l en (zRm 7 176) st mi ar bl me cd H locs 0 0 Q (F0 mi 377 ls [.int (nI m3), .int (nI (v / 240))]) := by
    obtain ⟨sw, hsw⟩ : ∃ sw, sw = v / 240 % m3 := ⟨_, rfl⟩
    have hsw10 : sw < 10 := by have := Nat.mod_lt (v / 240) (show 0 < m3 by omega); omega
    have hml3 := Nat.mod_le (v / 240) m3
    refine lv_irem hx hb dL_acts_377 (nI_ne0 (by omega) (by omega)) ?_
    refine lv_topi (nm_r (e' := nI ((v / 240) % m3)) (pk_rem (by omega) (by omega) (by omega)) ?_)
    refine lv_topi (nm_r (e' := (nI sw)) (by rw [hsw]) ?_)
    refine lv_istore (lv' := [(17, .int (nI sw)), (0, .ref (ad 0 0)), (1, .ref (q 0)), (2, .ref (q 1)), (3, .ref (q 2)), (4, .ref (q 3)), (6, .int (nI v)), (8, .int (nI k)), (9, .int (nI d)), (10, .int (nI p)), (11, .int (nI (4 * k + d)))]) hx hb dL_acts_378 hl (by decide) rfl (fun ls hl => ?_)
    refine lv_aload_n hx hb dL_acts_380 rfl (lv_at hl 4 rfl) ?_
    refine lv_iload hx hb dL_acts_381 (lv_at hl 10 rfl) ?_
    refine va_lald hx hb hG.1 hP 2 3 rfl rfl (vp_in_nI (n := 4 * k + d) (N := 24) (by omega) (by omega)) dL_acts_383 ?_
    refine lv_topl (nm_r (e' := (lN (aN σ k d))) (by rw [nI_clamp (by omega)]; exact aF_at σ (by omega)) ?_)
    refine lv_lstore (lv' := [(18, .long (lN (aN σ k d))), (17, .int (nI sw)), (0, .ref (ad 0 0)), (1, .ref (q 0)), (2, .ref (q 1)), (3, .ref (q 2)), (4, .ref (q 3)), (6, .int (nI v)), (8, .int (nI k)), (9, .int (nI d)), (10, .int (nI p)), (11, .int (nI (4 * k + d)))]) hx hb dL_acts_384 hl (by decide) rfl (fun ls hl => ?_)
    refine lv_lload hx hb dL_acts_386 (lv_at hl 0 rfl) ?_
    refine lv_bipush (v := nI 11) hx hb dL_acts_388 (by decide) ?_
    refine lv_iload hx hb dL_acts_390 (lv_at hl 10 rfl) ?_
    refine zrdS (As := [.long (lN (aN σ k d)), .int (nI 11), .int (nI p)]) ⟨hx, hb, hml, hown, hts⟩ (kL_digit l G  (aN σ k d) 11 p (by omega) (by omega) (by omega) (by omega)) (va_cwS 3 hts gL_acts_L_digit rfl rfl rfl (by decide +kernel) ⟨Nat.le_of_ble_eq_true rfl, Nat.le_of_ble_eq_true rfl⟩) hG (trivial) rfl rfl hl.1 dL_acts_392 (Nat.le_of_ble_eq_true rfl) ⟨Nat.le_of_ble_eq_true rfl, Nat.le_of_ble_eq_true rfl⟩ ?_
    refine lv_topi (nm_r (e' := (nI (sgn σ k d p))) (congrArg nI (aN_dg hO (by omega) hd4 hp)) ?_)
    refine lv_istore (lv' := [(20, .int (nI (sgn σ k d p))), (18, .long (lN (aN σ k d))), (17, .int (nI sw)), (0, .ref (ad 0 0)), (1, .ref (q 0)), (2, .ref (q 1)), (3, .ref (q 2)), (4, .ref (q 3)), (6, .int (nI v)), (8, .int (nI k)), (9, .int (nI d)), (10, .int (nI p)), (11, .int (nI (4 * k + d)))]) hx hb dL_acts_395 hl (by decide) rfl (fun ls hl => ?_)
    refine lv_aload_n hx hb dL_acts_397 rfl (lv_at hl 6 rfl) ?_
    refine lv_iload hx hb dL_acts_398 (lv_at hl 12 rfl) ?_
    refine lv_dup2_11 hx hb dL_acts_400 rfl rfl ?_
    refine va_lald hx hb hG.1 hP 2 3 rfl rfl (vp_in_nI (n := 4 * k + d) (N := 24) (by omega) (by omega)) dL_acts_401 ?_
    refine lv_topl (nm_r (e' := (lN (aN σ k d))) (by rw [nI_clamp (by omega)]; exact aF_at σ (by omega)) ?_)
    refine lv_iload hx hb dL_acts_402 (lv_at hl 2 rfl) ?_
    refine lv_iload hx hb dL_acts_404 (lv_at hl 0 rfl) ?_
    refine lv_isub hx hb dL_acts_406 ?_
    refine lv_i2l hx hb dL_acts_407 rfl ?_
    refine lv_bipush (v := nI 11) hx hb dL_acts_408 (by decide) ?_
    refine lv_iload hx hb dL_acts_410 (lv_at hl 11 rfl) ?_
    refine zrdS (As := [.int (nI 11), .int (nI p)]) ⟨hx, hb, hml, hown, hts⟩ (kL_power l G  11 p (by omega) (by omega) (by omega)) (va_cwS 2 hts gL_acts_L_power rfl rfl rfl (by decide +kernel) ⟨Nat.le_of_ble_eq_true rfl, Nat.le_of_ble_eq_true rfl⟩) hG (trivial) rfl rfl hl.1 dL_acts_412 (Nat.le_of_ble_eq_true rfl) ⟨Nat.le_of_ble_eq_true rfl, Nat.le_of_ble_eq_true rfl⟩ ?_
    refine lv_lmul hx hb dL_acts_415 ?_
    refine lv_ladd hx hb dL_acts_416 ?_
    refine lv_topl (nm_r (e' := (lN (aN (su σ (64 + 53 * k + (10 * d + p)) sw) k d))) (zl_up (by omega) (by omega) (aN_up σ hp sw)) ?_)
    refine va_last hx hb hG.1 hP hD hS 2 3 rfl rfl (vp_in_nI (n := 4 * k + d) (N := 24) (by omega) (by omega)) dL_acts_417 (fun H locs hP hD hS => ?_)
    rw [nI_clamp (show 4 * k + d < 2 ^ 31 by omega)] at hP hD
    have hP : va_P G.1 vwCl ((wL0 G q (gF σ) (rF σ) (vp_updL (aF σ) (4 * k + d) (lN (aN (su σ (64 + 53 * k + (10 * d + p)) sw) k d))) (bF σ)) ++ wX G ad σ T o n f x len) H := hP
    have hD : va_D A0 ((wL0 G q (gF σ) (rF σ) (vp_updL (aF σ) (4 * k + d) (lN (aN (su σ (64 + 53 * k + (10 * d + p)) sw) k d))) (bF σ)) ++ wX G ad σ T o n f x len) := hD
    have hP : va_P G.1 vwCl ((wL G q (su σ (64 + 53 * k + (10 * d + p)) sw)) ++ wX G ad σ T o n f x len) H := wL_x (sg_g σ k d p sw) (sg_r σ hd4 hp sw) (sg_a σ hd4 hp sw) (sg_b σ hd4 hp sw) hP
    have hD : va_D A0 ((wL G q (su σ (64 + 53 * k + (10 * d + p)) sw)) ++ wX G ad σ T o n f x len) := wL_d hD
    obtain ⟨hT, hOwn⟩ : Ok N (su σ (64 + 53 * k + (10 * d + p)) sw) ∧ Own k σ (su σ (64 + 53 * k + (10 * d + p)) sw) := ⟨hO.su_sg (by omega) (by omega), own_sg σ hd4 hp sw⟩
    obtain ⟨R1, R2, R3, R4, R5, R6⟩ := rfs hO hT hN hC hM hk hOwn
    by_cases hrf : rfsd (su σ (64 + 53 * k + (10 * d + p)) sw) k
    · skip
      refine lv_aload_n hx hb dL_acts_418 rfl (lv_at hl 3 rfl) ?_
      refine lv_iload hx hb dL_acts_419 (lv_at hl 9 rfl) ?_
      refine lv_iload hx hb dL_acts_421 (lv_at hl 10 rfl) ?_
      refine lv_iload hx hb dL_acts_423 (lv_at hl 11 rfl) ?_
      refine lv_iload hx hb dL_acts_425 (lv_at hl 2 rfl) ?_
      refine zwrR (G := G) (w1 := (wL G q (su σ (64 + 53 * k + (10 * d + p)) sw))) (wc := wX G ad σ T o n f x len) (wc' := wX G ad σ (upT T ((o + n) % 5) σ) o n f x len) (va_runV (As := [.int (nI k), .int (nI d), .int (nI p), .int (nI sw)]) (rest := []) ⟨hx, hb, hml, hown, hts⟩ (kX4_show_no l G ad σ T o n f x len k d p sw (hO) (by omega) (by omega) (by omega) (by omega) (by omega) (by omega) (hrf) (zD_any (zD_r hD))) (cwV 4 hts gL_acts_X4_show rfl rfl rfl (by decide +kernel) ⟨Nat.le_of_ble_eq_true rfl, Nat.le_of_ble_eq_true rfl⟩) (zPreV hG (va_recv (q0 := 0) (ci := 4) hG.1 (zP_r hP) rfl rfl) (zP_r hP)) rfl rfl hl.1 rfl (lv_room (Nat.le_of_ble_eq_true rfl)) dL_acts_427 ⟨Nat.le_of_ble_eq_true rfl, Nat.le_of_ble_eq_true rfl⟩) hP hD hS (wX_map ..) (fun H locs hP hD hS => ?_)
      refine lv_aload_n hx hb dL_acts_430 rfl (lv_at hl 4 rfl) ?_
      refine lv_aload_n hx hb dL_acts_431 rfl (lv_at hl 5 rfl) ?_
      refine lv_aload_n hx hb dL_acts_432 rfl (lv_at hl 6 rfl) ?_
      refine lv_aload hx hb dL_acts_433 (lv_at hl 7 rfl) ?_
      refine lv_iload hx hb dL_acts_435 (lv_at hl 9 rfl) ?_
      refine lv_iload hx hb dL_acts_437 (lv_at hl 12 rfl) ?_
      refine lv_lload hx hb dL_acts_439 (lv_at hl 1 rfl) ?_
      refine lv_iconst (v := nI 0) hx hb dL_acts_441 (by decide) ?_
      refine zwrL (G := G) (wc := (wL G q (su σ (64 + 53 * k + (10 * d + p)) sw))) (wc' := (wL G q σ)) (w2 := wX G ad σ (upT T ((o + n) % 5) σ) o n f x len) (va_runS (As := [.ref (q 0), .ref (q 1), .ref (q 2), .ref (q 3), .int (nI k), .int (nI (4 * k + d)), .long (lN (aN σ k d)), .int (nI 0)]) (rest := [.int (-2)]) ⟨hx, hb, hml, hown, hts⟩ (kL_keeps_no l G q (su σ (64 + 53 * k + (10 * d + p)) sw) σ k (4 * k + d) (aN σ k d) hT R6 (by omega) (R1.mp hrf).1 (R1.mp hrf).2 (fun j hj => (sg_g σ k d p sw j hj).symm) (fun j hj => (sg_r σ hd4 hp sw j hj).symm) (sg_back σ hd4 hp sw) (fun j hj => (sg_b σ hd4 hp sw j hj).symm) (by omega) (zD_any (zD_l hD)) ) (va_cwS 8 hts gL_acts_L_keeps rfl rfl rfl (by decide +kernel) ⟨Nat.le_of_ble_eq_true rfl, Nat.le_of_ble_eq_true rfl⟩) (zPre hG (zP_l hP)) rfl rfl hl.1 rfl (lv_room (Nat.le_of_ble_eq_true rfl)) dL_acts_442 ⟨Nat.le_of_ble_eq_true rfl, Nat.le_of_ble_eq_true rfl⟩) hP hD hS rfl (fun H locs hP hD hS => ?_)
      refine lv_if_eq (tgt := 453) hx hb dL_acts_445 (by decide) (fun h445 => ?_) (fun h445 => ?_)
      · skip
        have h445 : 0 = 0 := (z_eq0 (by omega)).mp h445
        refine lv_bipush (v := (-2)) hx hb dL_acts_453 (by decide) ?_
        refine lv_icmp_ne (tgt := 462) hx hb dL_acts_455 (by decide) (fun h455 => ?_) (fun h455 => ?_)
        · skip
          exact absurd rfl h455
        · skip
          refine lv_iconst (v := nI 1) hx hb dL_acts_458 (by decide) ?_
          refine lv_goto (tgt := 463) hx hb dL_acts_459 (by decide) ?_
          exact hret _ _ _ _ _ _ _ _ _ dL_acts_463 hS (⟨hO.up hN, hC, ho, hn, hM⟩) hP
      · skip
        have h445 : ¬ (0 = 0) := fun q => h445 ((z_eq0 (by omega)).mpr q)
        have h445 : 0 < 0 := Nat.pos_of_ne_zero h445
        exfalso; omega
    · skip
      refine lv_aload_n hx hb dL_acts_418 rfl (lv_at hl 3 rfl) ?_
      refine lv_iload hx hb dL_acts_419 (lv_at hl 9 rfl) ?_
      refine lv_iload hx hb dL_acts_421 (lv_at hl 10 rfl) ?_
      refine lv_iload hx hb dL_acts_423 (lv_at hl 11 rfl) ?_
      refine lv_iload hx hb dL_acts_425 (lv_at hl 2 rfl) ?_
      refine zwrR (G := G) (w1 := (wL G q (su σ (64 + 53 * k + (10 * d + p)) sw))) (wc := wX G ad σ T o n f x len) (wc' := wX G ad (endS (su σ (64 + 53 * k + (10 * d + p)) sw) k) (upT T ((o + n) % 5) σ) (nO o n) (nN n) f x len) (va_runV (As := [.int (nI k), .int (nI d), .int (nI p), .int (nI sw)]) (rest := []) ⟨hx, hb, hml, hown, hts⟩ (kX4_show_ok l G ad σ T o n f x len k d p sw (hO) (by omega) (by omega) (by omega) (by omega) (by omega) (by omega) (hrf) (zD_any (zD_r hD))) (cwV 4 hts gL_acts_X4_show rfl rfl rfl (by decide +kernel) ⟨Nat.le_of_ble_eq_true rfl, Nat.le_of_ble_eq_true rfl⟩) (zPreV hG (va_recv (q0 := 0) (ci := 4) hG.1 (zP_r hP) rfl rfl) (zP_r hP)) rfl rfl hl.1 rfl (lv_room (Nat.le_of_ble_eq_true rfl)) dL_acts_427 ⟨Nat.le_of_ble_eq_true rfl, Nat.le_of_ble_eq_true rfl⟩) hP hD hS (wX_map ..) (fun H locs hP hD hS => ?_)
      refine lv_aload_n hx hb dL_acts_430 rfl (lv_at hl 4 rfl) ?_
      refine lv_aload_n hx hb dL_acts_431 rfl (lv_at hl 5 rfl) ?_
      refine lv_aload_n hx hb dL_acts_432 rfl (lv_at hl 6 rfl) ?_
      refine lv_aload hx hb dL_acts_433 (lv_at hl 7 rfl) ?_
      refine lv_iload hx hb dL_acts_435 (lv_at hl 9 rfl) ?_
      refine lv_iload hx hb dL_acts_437 (lv_at hl 12 rfl) ?_
      refine lv_lload hx hb dL_acts_439 (lv_at hl 1 rfl) ?_
      refine lv_iconst (v := nI 0) hx hb dL_acts_441 (by decide) ?_
      refine zwrL (G := G) (wc := (wL G q (su σ (64 + 53 * k + (10 * d + p)) sw))) (wc' := (wL G q (kpS (su σ (64 + 53 * k + (10 * d + p)) sw) k))) (w2 := wX G ad (endS (su σ (64 + 53 * k + (10 * d + p)) sw) k) (upT T ((o + n) % 5) σ) (nO o n) (nN n) f x len) (va_runS (As := [.ref (q 0), .ref (q 1), .ref (q 2), .ref (q 3), .int (nI k), .int (nI (4 * k + d)), .long (lN (aN σ k d)), .int (nI 0)]) (rest := [.int (nI (sgn σ k d p))]) ⟨hx, hb, hml, hown, hts⟩ (kL_keeps_ok l G q (su σ (64 + 53 * k + (10 * d + p)) sw) k (4 * k + d) (aN σ k d) 0 hT R6 (by omega) (fun z => hrf (R1.mpr z)) (zD_any (zD_l hD)) ) (va_cwS 8 hts gL_acts_L_keeps rfl rfl rfl (by decide +kernel) ⟨Nat.le_of_ble_eq_true rfl, Nat.le_of_ble_eq_true rfl⟩) (zPre hG (zP_l hP)) rfl rfl hl.1 rfl (lv_room (Nat.le_of_ble_eq_true rfl)) dL_acts_442 ⟨Nat.le_of_ble_eq_true rfl, Nat.le_of_ble_eq_true rfl⟩) hP hD hS rfl (fun H locs hP hD hS => ?_)
      rw [← R2] at hP hD
      refine lv_if_eq (tgt := 453) hx hb dL_acts_445 (by decide) (fun h445 => ?_) (fun h445 => ?_)
      · skip
        have h445 : 1 = 0 := (z_eq0 (by omega)).mp h445
        exfalso; omega
      · skip
        have h445 : ¬ (1 = 0) := fun q => h445 ((z_eq0 (by omega)).mpr q)
        have h445 : 0 < 1 := Nat.pos_of_ne_zero h445
        refine lv_iload hx hb dL_acts_448 (lv_at hl 0 rfl) ?_
        refine lv_goto (tgt := 455) hx hb dL_acts_450 (by decide) ?_
        refine lv_icmp_ne (tgt := 462) hx hb dL_acts_455 (by decide) (fun h455 => ?_) (fun h455 => ?_)
        · skip
          exact absurd rfl h455
        · skip
          refine lv_iconst (v := nI 1) hx hb dL_acts_458 (by decide) ?_
          refine lv_goto (tgt := 463) hx hb dL_acts_459 (by decide) ?_
          exact hret _ _ _ _ _ _ _ _ _ dL_acts_463 hS (⟨R4, R3, jO ho, jN hn, R5⟩) hP
  refine lv_iload hx hb dL_acts_364 (lv_at hl 5 rfl) ?_
  refine lv_iconst (v := nI 3) hx hb dL_acts_366 (by decide) ?_
  refine lv_irem hx hb dL_acts_367 (nI_ne0 (by omega) (by omega)) ?_
  refine lv_topi (nm_r (e' := nI (v % 3)) (pk_rem (by omega) (by omega) (by omega)) ?_)
  refine lv_if_ne (tgt := 376) hx hb dL_acts_368 (by decide) (fun h368 => ?_) (fun h368 => ?_)
  · skip
    have h368 : ¬ ((v % 3) = 0) := fun q => h368 ((z_eq0 (by omega)).mpr q)
    have h368 : 0 < (v % 3) := Nat.pos_of_ne_zero h368
    refine lv_iconst (v := nI 3) hx hb dL_acts_376 (by decide) ?_
    refine lv_topi (nm_r (e' := (nI m3)) (by rw [hm3, if_neg (by omega)]) ?_)
    exact mg364
  · skip
    have h368 : (v % 3) = 0 := (z_eq0 (by omega)).mp h368
    refine lv_bipush (v := nI 10) hx hb dL_acts_371 (by decide) ?_
    refine lv_goto (tgt := 377) hx hb dL_acts_373 (by decide) ?_
    refine lv_topi (nm_r (e' := (nI m3)) (by rw [hm3, if_pos (by omega)]) ?_)
    exact mg364
