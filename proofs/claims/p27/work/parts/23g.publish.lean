set_option maxHeartbeats 8000000 in
set_option maxRecDepth 100000 in
theorem ac_publish {pr : Program} {l : Launch} {en : Env} {st : State} {mi : MethodId} {ar : Array Value} {bl : List Frame} {me : Method} {cd : Code} {Q : State → Prop} {G : zG} {q : Nat → Nat} {ad : Nat → Nat → Nat} {σ : Nat → Nat} {T : Nat → Nat → Nat} {o n : Nat} {f : Nat → Int32} {x : Nat → Nat} {len : Nat} {N : Nat} {A0 : Nat → Prop} {H : Heap} {locs : List Loc} {ls : Array Slot} {k : Nat} (C0 : AC pr st mi ar cd G) (hJ : Jv N σ o n) (hN : N + 1 < 100000) (hk : k < nS σ) (hP : va_P G.1 vwCl ((wL G q σ) ++ wX G ad σ T o n f x len) H) (hD : va_D A0 ((wL G q σ) ++ wX G ad σ T o n f x len)) (hS : va_S A0 st.heap H locs) (hl : lv_has ls 43 [(0, .ref (ad 0 0)), (1, .ref (q 0)), (2, .ref (q 1)), (3, .ref (q 2)), (4, .ref (q 3)), (8, .int (nI k))]) (hret : AR pr l en st mi ar bl me cd Q G q ad x len A0 (N + 1)) : W pr l en (zRm 7 176) st mi ar bl me cd H locs 0 0 Q (F0 mi 1293 ls []) := by
  obtain ⟨hx, hb, hml, hown, hts, hG⟩ := id C0
  obtain ⟨hO, hC, ho, hn, hM⟩ := id hJ
  have hc := hO.c
  have hs := hO.lS
  have hne := hO.lE
  have hM6 := hM.s
  have hM7 := hM.e
  have hM4 := hM.r
  have hM1 := hM.1
  have hM2 := hM.2
  have hNN := hO.N
  have hg2 := hO.2.2.1
  have hg3 := hO.2.2.2.1
  have hrv := hO.rv (show k < 36 by omega)
  have hpb := hO.pb (show k < 36 by omega)
  refine lv_iconst (v := nI 1) hx hb dL_acts_1293 (by decide) ?_
  refine lv_istore (lv' := [(38, .int (nI 1)), (0, .ref (ad 0 0)), (1, .ref (q 0)), (2, .ref (q 1)), (3, .ref (q 2)), (4, .ref (q 3)), (8, .int (nI k))]) hx hb dL_acts_1294 hl (by decide) rfl (fun ls hl => ?_)
  refine lv_iconst (v := nI 0) hx hb dL_acts_1296 (by decide) ?_
  refine lv_istore (lv' := [(39, .int (nI 0)), (38, .int (nI 1)), (0, .ref (ad 0 0)), (1, .ref (q 0)), (2, .ref (q 1)), (3, .ref (q 2)), (4, .ref (q 3)), (8, .int (nI k))]) hx hb dL_acts_1297 hl (by decide) rfl (fun ls hl => ?_)
  have loop1299 : ∀ (m : Nat) (i : Nat) (al : Nat) (hal : al ≤ 1 ∧ (al = 1 ↔ aAl σ k i)) (hi : i ≤ 4) (hm : 4 < i + m) (ls : Array Slot) (hl : lv_has ls 43 [(0, .ref (ad 0 0)), (1, .ref (q 0)), (2, .ref (q 1)), (3, .ref (q 2)), (4, .ref (q 3)), (8, .int (nI k)), (38, .int (nI al)), (39, .int (nI i))]) (H : Heap) (locs : List Loc) (hP : va_P G.1 vwCl ((wL G q σ) ++ wX G ad σ T o n f x len) H) (hD : va_D A0 ((wL G q σ) ++ wX G ad σ T o n f x len)) (hS : va_S A0 st.heap H locs), W pr l en (zRm 7 176) st mi ar bl me cd H locs 0 0 Q (F0 mi 1299 ls []) := by
    intro m
    induction m with
    | zero => intro i al hal hi hm ls hl H locs hP hD hS; exfalso; omega
    | succ m ih1299 =>
      intro i al hal hi hm ls hl H locs hP hD hS
      refine lv_iload hx hb dL_acts_1299 (lv_at hl 7 rfl) ?_
      refine lv_iconst (v := nI 4) hx hb dL_acts_1301 (by decide) ?_
      refine lv_icmp_ge (tgt := 1350) hx hb dL_acts_1302 (by decide) (fun h1302 => ?_) (fun h1302 => ?_)
      · skip
        have h1302 : 4 ≤ i := (nI_leI (by omega) (by omega)).mp h1302
        have hi4 : i = 4 := by omega
        have hal4 : al = 1 ↔ ¬ nAd σ k < nEd σ k := by rw [← aAl_iff, ← hi4]; exact hal.2
        refine lv_aload_n hx hb dL_acts_1350 rfl (lv_at hl 2 rfl) ?_
        refine lv_bipush (v := nI 6) hx hb dL_acts_1351 (by decide) ?_
        refine lv_iload hx hb dL_acts_1353 (lv_at hl 5 rfl) ?_
        refine lv_iadd hx hb dL_acts_1355 ?_
        refine lv_topi (nm_r (e' := nI (6 + k)) (nI_add _ _) ?_)
        refine lv_iload hx hb dL_acts_1356 (lv_at hl 6 rfl) ?_
        refine lv_if_eq (tgt := 1368) hx hb dL_acts_1358 (by decide) (fun h1358 => ?_) (fun h1358 => ?_)
        · skip
          have h1358 : al = 0 := (z_eq0 (by omega)).mp h1358
          refine lv_aload_n hx hb dL_acts_1368 rfl (lv_at hl 2 rfl) ?_
          refine lv_bipush (v := nI 6) hx hb dL_acts_1369 (by decide) ?_
          refine lv_iload hx hb dL_acts_1371 (lv_at hl 5 rfl) ?_
          refine lv_iadd hx hb dL_acts_1373 ?_
          refine lv_topi (nm_r (e' := nI (6 + k)) (nI_add _ _) ?_)
          refine va_iald hx hb hG.1 hP 1 0 rfl rfl (vp_in_nI (n := 6 + k) (N := 18) (by omega) (by omega)) dL_acts_1374 ?_
          refine lv_topi (nm_r (e' := zc4 (pbn σ k)) (by rw [nI_clamp (by omega)]; unfold rF; rw [if_neg (by omega), if_pos (by omega), Nat.add_sub_cancel_left]) ?_)
          refine va_iast hx hb hG.1 hP hD hS 1 0 rfl rfl (vp_in_nI (n := 6 + k) (N := 18) (by omega) (by omega)) dL_acts_1375 (fun H locs hP hD hS => ?_)
          rw [nI_clamp (show 6 + k < 2 ^ 31 by omega)] at hP hD
          have hP : va_P G.1 vwCl ((wL0 G q (gF σ) (upd (rF σ) (6 + k) (zc4 (pbn σ k))) (aF σ) (bF σ)) ++ wX G ad σ T o n f x len) H := hP
          have hD : va_D A0 ((wL0 G q (gF σ) (upd (rF σ) (6 + k) (zc4 (pbn σ k))) (aF σ) (bF σ)) ++ wX G ad σ T o n f x len) := hD
          have hP : va_P G.1 vwCl ((wL G q σ) ++ wX G ad σ T o n f x len) H := wL_x (fun _ _ => rfl) (rF_pbs σ (by omega)) (fun _ _ => rfl) (fun _ _ => rfl) hP
          have hD : va_D A0 ((wL G q σ) ++ wX G ad σ T o n f x len) := wL_d hD
          refine lv_aload_n hx hb dL_acts_1376 rfl (lv_at hl 0 rfl) ?_
          refine lv_iload hx hb dL_acts_1377 (lv_at hl 5 rfl) ?_
          refine zwrR (G := G) (w1 := (wL G q σ)) (wc := wX G ad σ T o n f x len) (wc' := wX G ad σ T o n f x len) (va_runV (As := [.int (nI k)]) (rest := []) ⟨hx, hb, hml, hown, hts⟩ (kX4_publish_no l G ad σ T o n f x len k (hO) (by omega) (by omega) (by omega) (Decidable.byContradiction fun z => by have := hal4.mpr z; omega) (zD_any (zD_r hD))) (cwV 1 hts gL_acts_X4_publish rfl rfl rfl (by decide +kernel) ⟨Nat.le_of_ble_eq_true rfl, Nat.le_of_ble_eq_true rfl⟩) (zPreV hG (va_recv (q0 := 0) (ci := 4) hG.1 (zP_r hP) rfl rfl) (zP_r hP)) rfl rfl hl.1 rfl (lv_room (Nat.le_of_ble_eq_true rfl)) dL_acts_1379 ⟨Nat.le_of_ble_eq_true rfl, Nat.le_of_ble_eq_true rfl⟩) hP hD hS (wX_map ..) (fun H locs hP hD hS => ?_)
          refine lv_iload hx hb dL_acts_1382 (lv_at hl 6 rfl) ?_
          refine lv_if_eq (tgt := 1394) hx hb dL_acts_1384 (by decide) (fun h1384 => ?_) (fun h1384 => ?_)
          · skip
            have h1384 : al = 0 := (z_eq0 (by omega)).mp h1384
            refine lv_bipush (v := (-2)) hx hb dL_acts_1394 (by decide) ?_
            refine lv_icmp_ne (tgt := 1403) hx hb dL_acts_1396 (by decide) (fun h1396 => ?_) (fun h1396 => ?_)
            · skip
              first | exact absurd rfl h1396 | (exfalso; omega)
            · skip
              refine lv_iconst (v := nI 1) hx hb dL_acts_1399 (by decide) ?_
              refine lv_goto (tgt := 1404) hx hb dL_acts_1400 (by decide) ?_
              exact hret _ _ _ _ _ _ _ _ _ dL_acts_1404 hS (⟨hO.up hN, hC, ho, hn, hM⟩) hP
          · skip
            have h1384 : ¬ (al = 0) := fun q => h1384 ((z_eq0 (by omega)).mpr q)
            have h1384 : 0 < al := Nat.pos_of_ne_zero h1384
            refine lv_aload_n hx hb dL_acts_1387 rfl (lv_at hl 2 rfl) ?_
            refine lv_iload hx hb dL_acts_1388 (lv_at hl 5 rfl) ?_
            refine va_iald hx hb hG.1 hP 1 0 rfl rfl (vp_in_nI (n := k) (N := 18) (by omega) (by omega)) dL_acts_1390 ?_
            refine lv_topi (nm_r (e' := nI (rvn σ k)) (by rw [nI_clamp (by omega)]; unfold rF; rw [if_pos (by omega)]) ?_)
            refine lv_goto (tgt := 1396) hx hb dL_acts_1391 (by decide) ?_
            refine lv_icmp_ne (tgt := 1403) hx hb dL_acts_1396 (by decide) (fun h1396 => ?_) (fun h1396 => ?_)
            · skip
              first | exact absurd rfl h1396 | (exfalso; omega)
            · skip
              refine lv_iconst (v := nI 1) hx hb dL_acts_1399 (by decide) ?_
              refine lv_goto (tgt := 1404) hx hb dL_acts_1400 (by decide) ?_
              exact hret _ _ _ _ _ _ _ _ _ dL_acts_1404 hS (⟨hO.up hN, hC, ho, hn, hM⟩) hP
        · skip
          have h1358 : ¬ (al = 0) := fun q => h1358 ((z_eq0 (by omega)).mpr q)
          have h1358 : 0 < al := Nat.pos_of_ne_zero h1358
          refine lv_aload_n hx hb dL_acts_1361 rfl (lv_at hl 2 rfl) ?_
          refine lv_iload hx hb dL_acts_1362 (lv_at hl 5 rfl) ?_
          refine va_iald hx hb hG.1 hP 1 0 rfl rfl (vp_in_nI (n := k) (N := 18) (by omega) (by omega)) dL_acts_1364 ?_
          refine lv_topi (nm_r (e' := nI (rvn σ k)) (by rw [nI_clamp (by omega)]; unfold rF; rw [if_pos (by omega)]) ?_)
          refine lv_goto (tgt := 1375) hx hb dL_acts_1365 (by decide) ?_
          refine va_iast hx hb hG.1 hP hD hS 1 0 rfl rfl (vp_in_nI (n := 6 + k) (N := 18) (by omega) (by omega)) dL_acts_1375 (fun H locs hP hD hS => ?_)
          rw [nI_clamp (show 6 + k < 2 ^ 31 by omega)] at hP hD
          have hP : va_P G.1 vwCl ((wL0 G q (gF σ) (upd (rF σ) (6 + k) (nI (rvn σ k))) (aF σ) (bF σ)) ++ wX G ad σ T o n f x len) H := hP
          have hD : va_D A0 ((wL0 G q (gF σ) (upd (rF σ) (6 + k) (nI (rvn σ k))) (aF σ) (bF σ)) ++ wX G ad σ T o n f x len) := hD
          have hP : va_P G.1 vwCl ((wL G q (su σ (115 + 53 * k) (rvn σ k + 1))) ++ wX G ad σ T o n f x len) H := wL_x (hi_g σ (by omega) _) (rF_pb σ (by omega) _) (hi_a σ (by omega) _) (hi_b σ (by omega) _) hP
          have hD : va_D A0 ((wL G q (su σ (115 + 53 * k) (rvn σ k + 1))) ++ wX G ad σ T o n f x len) := wL_d hD
          refine lv_aload_n hx hb dL_acts_1376 rfl (lv_at hl 0 rfl) ?_
          refine lv_iload hx hb dL_acts_1377 (lv_at hl 5 rfl) ?_
          refine zwrR (G := G) (w1 := (wL G q (su σ (115 + 53 * k) (rvn σ k + 1)))) (wc := wX G ad σ T o n f x len) (wc' := wX G ad (su σ (115 + 53 * k) (rvn σ k + 1)) (upT T ((o + n) % 5) σ) (nO o n) (nN n) f x len) (va_runV (As := [.int (nI k)]) (rest := []) ⟨hx, hb, hml, hown, hts⟩ (kX4_publish_ok l G ad σ T o n f x len k (hO) (by omega) (by omega) (by omega) (hal4.mp (by omega)) (zD_any (zD_r hD))) (cwV 1 hts gL_acts_X4_publish rfl rfl rfl (by decide +kernel) ⟨Nat.le_of_ble_eq_true rfl, Nat.le_of_ble_eq_true rfl⟩) (zPreV hG (va_recv (q0 := 0) (ci := 4) hG.1 (zP_r hP) rfl rfl) (zP_r hP)) rfl rfl hl.1 rfl (lv_room (Nat.le_of_ble_eq_true rfl)) dL_acts_1379 ⟨Nat.le_of_ble_eq_true rfl, Nat.le_of_ble_eq_true rfl⟩) hP hD hS (wX_map ..) (fun H locs hP hD hS => ?_)
          refine lv_iload hx hb dL_acts_1382 (lv_at hl 6 rfl) ?_
          refine lv_if_eq (tgt := 1394) hx hb dL_acts_1384 (by decide) (fun h1384 => ?_) (fun h1384 => ?_)
          · skip
            have h1384 : al = 0 := (z_eq0 (by omega)).mp h1384
            refine lv_bipush (v := (-2)) hx hb dL_acts_1394 (by decide) ?_
            refine lv_icmp_ne (tgt := 1403) hx hb dL_acts_1396 (by decide) (fun h1396 => ?_) (fun h1396 => ?_)
            · skip
              first | exact absurd rfl h1396 | (exfalso; omega)
            · skip
              refine lv_iconst (v := nI 1) hx hb dL_acts_1399 (by decide) ?_
              refine lv_goto (tgt := 1404) hx hb dL_acts_1400 (by decide) ?_
              exact hret _ _ _ _ _ _ _ _ _ dL_acts_1404 hS (⟨(hO.su_pb (by omega)).up hN, cln_su hO hC (by omega) (fun k y hy => by omega) (fun e he => by omega), jO ho, jN hn, hM.su (by omega)⟩) hP
          · skip
            have h1384 : ¬ (al = 0) := fun q => h1384 ((z_eq0 (by omega)).mpr q)
            have h1384 : 0 < al := Nat.pos_of_ne_zero h1384
            refine lv_aload_n hx hb dL_acts_1387 rfl (lv_at hl 2 rfl) ?_
            refine lv_iload hx hb dL_acts_1388 (lv_at hl 5 rfl) ?_
            refine va_iald hx hb hG.1 hP 1 0 rfl rfl (vp_in_nI (n := k) (N := 18) (by omega) (by omega)) dL_acts_1390 ?_
            refine lv_topi (nm_r (e' := nI (rvn (su σ (115 + 53 * k) (rvn σ k + 1)) k)) (by rw [nI_clamp (by omega)]; unfold rF; rw [if_pos (by omega)]) ?_)
            refine lv_topi (nm_r (e' := (nI (rvn σ k))) (congrArg nI (congrFun (rvn_ne _ (fun x => by omega)) k)) ?_)
            refine lv_goto (tgt := 1396) hx hb dL_acts_1391 (by decide) ?_
            refine lv_icmp_ne (tgt := 1403) hx hb dL_acts_1396 (by decide) (fun h1396 => ?_) (fun h1396 => ?_)
            · skip
              first | exact absurd rfl h1396 | (exfalso; omega)
            · skip
              refine lv_iconst (v := nI 1) hx hb dL_acts_1399 (by decide) ?_
              refine lv_goto (tgt := 1404) hx hb dL_acts_1400 (by decide) ?_
              exact hret _ _ _ _ _ _ _ _ _ dL_acts_1404 hS (⟨(hO.su_pb (by omega)).up hN, cln_su hO hC (by omega) (fun k y hy => by omega) (fun e he => by omega), jO ho, jN hn, hM.su (by omega)⟩) hP
      · skip
        have h1302 : ¬ (4 ≤ i) := fun q => h1302 ((nI_leI (by omega) (by omega)).mpr q)
        refine lv_aload_n hx hb dL_acts_1305 rfl (lv_at hl 1 rfl) ?_
        refine lv_iload hx hb dL_acts_1306 (lv_at hl 5 rfl) ?_
        refine lv_iload hx hb dL_acts_1308 (lv_at hl 7 rfl) ?_
        refine zrdS (As := [.ref (q 0), .int (nI k), .int (nI i)]) ⟨hx, hb, hml, hown, hts⟩ (kL_edgeAt l G q σ k i (hO) (hM) (by omega) (by omega)) (va_cwS 3 hts gL_acts_L_edgeAt rfl rfl rfl (by decide +kernel) ⟨Nat.le_of_ble_eq_true rfl, Nat.le_of_ble_eq_true rfl⟩) hG (zP_l hP) rfl rfl hl.1 dL_acts_1310 (Nat.le_of_ble_eq_true rfl) ⟨Nat.le_of_ble_eq_true rfl, Nat.le_of_ble_eq_true rfl⟩ ?_
        have hf1310_0 := hO.lO (show k < nS σ by omega) (show i < 4 by omega)
        refine lv_istore (lv' := [(40, .int (zc 60 (eO σ k i))), (0, .ref (ad 0 0)), (1, .ref (q 0)), (2, .ref (q 1)), (3, .ref (q 2)), (4, .ref (q 3)), (8, .int (nI k)), (38, .int (nI al)), (39, .int (nI i))]) hx hb dL_acts_1313 hl (by decide) rfl (fun ls hl => ?_)
        have hagf := agF_le hO (eO σ k i)
        have mg1315 : W pr l en (zRm 7 176) st mi ar bl me cd H locs 0 0 Q (F0 mi 1342 ls [.int (nI (if al = 1 ∧ (eO σ k i = 60 ∨ agF σ (eO σ k i) = 1) then 1 else 0))]) := by
          refine lv_istore (lv' := [(38, .int (nI (if al = 1 ∧ (eO σ k i = 60 ∨ agF σ (eO σ k i) = 1) then 1 else 0))), (40, .int (zc 60 (eO σ k i))), (0, .ref (ad 0 0)), (1, .ref (q 0)), (2, .ref (q 1)), (3, .ref (q 2)), (4, .ref (q 3)), (8, .int (nI k)), (39, .int (nI i))]) hx hb dL_acts_1342 hl (by decide) rfl (fun ls hl => ?_)
          refine lv_iinc (v := nI (i + 1)) (lv' := [(39, .int (nI (i + 1))), (38, .int (nI (if al = 1 ∧ (eO σ k i = 60 ∨ agF σ (eO σ k i) = 1) then 1 else 0))), (40, .int (zc 60 (eO σ k i))), (0, .ref (ad 0 0)), (1, .ref (q 0)), (2, .ref (q 1)), (3, .ref (q 2)), (4, .ref (q 3)), (8, .int (nI k))]) hx hb dL_acts_1344 hl (k := 8) rfl (zinc1 _) (by decide) rfl (fun ls hl => ?_)
          refine lv_goto (tgt := 1299) hx hb dL_acts_1347 (by decide) ?_
          have hal2 : ((if al = 1 ∧ (eO σ k i = 60 ∨ agF σ (eO σ k i) = 1) then 1 else 0) = 1 ↔ aAl σ k (i + 1)) := by
            rw [aAl_s, ← hal.2]
            constructor
            · intro z
              by_cases y : al = 1 ∧ (eO σ k i = 60 ∨ agF σ (eO σ k i) = 1)
              · exact y
              · rw [if_neg y] at z
                omega
            · intro z
              rw [if_pos z]
          exact ih1299 (i + 1) (if al = 1 ∧ (eO σ k i = 60 ∨ agF σ (eO σ k i) = 1) then 1 else 0) (⟨by split <;> omega, hal2⟩) (by omega) (by omega) _ (lv_sub hl [3, 4, 5, 6, 7, 8, 1, 0] rfl) _ _ hP hD hS
        refine lv_iload hx hb dL_acts_1315 (lv_at hl 7 rfl) ?_
        refine lv_if_eq (tgt := 1341) hx hb dL_acts_1317 (by decide) (fun h1317 => ?_) (fun h1317 => ?_)
        · skip
          have h1317 : al = 0 := (z_eq0 (by omega)).mp h1317
          refine lv_iconst (v := nI 0) hx hb dL_acts_1341 (by decide) ?_
          refine lv_topi (nm_r (e' := (nI (if al = 1 ∧ (eO σ k i = 60 ∨ agF σ (eO σ k i) = 1) then 1 else 0))) (by rw [if_neg (by omega)]) ?_)
          exact mg1315
        · skip
          have h1317 : ¬ (al = 0) := fun q => h1317 ((z_eq0 (by omega)).mpr q)
          have h1317 : 0 < al := Nat.pos_of_ne_zero h1317
          refine lv_iload hx hb dL_acts_1320 (lv_at hl 0 rfl) ?_
          refine lv_if_lt (tgt := 1337) hx hb dL_acts_1322 (by decide) (fun h1322 => ?_) (fun h1322 => ?_)
          · skip
            have h1322 : eO σ k i = 60 := (zc_lt (by omega)).mp h1322
            refine lv_iconst (v := nI 1) hx hb dL_acts_1337 (by decide) ?_
            refine lv_goto (tgt := 1342) hx hb dL_acts_1338 (by decide) ?_
            refine lv_topi (nm_r (e' := (nI (if al = 1 ∧ (eO σ k i = 60 ∨ agF σ (eO σ k i) = 1) then 1 else 0))) (by rw [if_pos ⟨by omega, Or.inl h1322⟩]) ?_)
            exact mg1315
          · skip
            have h1322 : ¬ (eO σ k i = 60) := fun q => h1322 ((zc_lt (by omega)).mpr q)
            refine lv_aload_n hx hb dL_acts_1325 rfl (lv_at hl 2 rfl) ?_
            refine lv_iconst (v := nI 4) hx hb dL_acts_1326 (by decide) ?_
            refine va_iald hx hb hG.1 hP 0 0 rfl rfl (vp_in_nI (n := 4) (N := 5) (by omega) (by omega)) dL_acts_1327 ?_
            refine lv_topi (nm_r (e' := nI (agM σ)) (by rw [nI_clamp (by omega)]; exact if_pos rfl) ?_)
            refine lv_iload hx hb dL_acts_1328 (lv_at hl 0 rfl) ?_
            refine lv_topi (nm_r (e' := (nI (eO σ k i))) (zc_n h1322) ?_)
            refine lv_ishr hx hb dL_acts_1330 ?_
            refine lv_iconst (v := nI 1) hx hb dL_acts_1331 (by decide) ?_
            refine lv_iand hx hb dL_acts_1332 ?_
            refine lv_topi (nm_r (e' := (nI (agF σ (eO σ k i)))) (by rw [b_get _ (agM_lt hO) _ (by omega), agM_bt hO (by omega), agF_at (by omega)]) ?_)
            refine lv_iconst (v := nI 1) hx hb dL_acts_1333 (by decide) ?_
            refine lv_icmp_ne (tgt := 1341) hx hb dL_acts_1334 (by decide) (fun h1334 => ?_) (fun h1334 => ?_)
            · skip
              have h1334 : ¬ ((agF σ (eO σ k i)) = 1) := fun q => h1334 ((nI_eq (by omega) (by omega)).mpr q)
              refine lv_iconst (v := nI 0) hx hb dL_acts_1341 (by decide) ?_
              refine lv_topi (nm_r (e' := (nI (if al = 1 ∧ (eO σ k i = 60 ∨ agF σ (eO σ k i) = 1) then 1 else 0))) (by rw [if_neg (fun z => z.2.elim h1322 h1334)]) ?_)
              exact mg1315
            · skip
              have h1334 : (agF σ (eO σ k i)) = 1 := (nI_eq (by omega) (by omega)).mp h1334
              refine lv_iconst (v := nI 1) hx hb dL_acts_1337 (by decide) ?_
              refine lv_goto (tgt := 1342) hx hb dL_acts_1338 (by decide) ?_
              refine lv_topi (nm_r (e' := (nI (if al = 1 ∧ (eO σ k i = 60 ∨ agF σ (eO σ k i) = 1) then 1 else 0))) (by rw [if_pos ⟨by omega, Or.inr h1334⟩]) ?_)
              exact mg1315
  exact loop1299 5 0 1 (⟨by omega, ⟨fun _ d hd => absurd hd (Nat.not_lt_zero d), fun _ => rfl⟩⟩) (by omega) (by omega) _ (lv_sub hl [2, 3, 4, 5, 6, 7, 1, 0] rfl) _ _ hP hD hS
set_option maxHeartbeats 8000000 in
set_option maxRecDepth 100000 in
theorem ac_scale {pr : Program} {l : Launch} {en : Env} {st : State} {mi : MethodId} {ar : Array Value} {bl : List Frame} {me : Method} {cd : Code} {Q : State → Prop} {G : zG} {q : Nat → Nat} {ad : Nat → Nat → Nat} {σ : Nat → Nat} {T : Nat → Nat → Nat} {o n : Nat} {f : Nat → Int32} {x : Nat → Nat} {len : Nat} {N : Nat} {A0 : Nat → Prop} {H : Heap} {locs : List Loc} {ls : Array Slot} {v k : Nat} (C0 : AC pr st mi ar cd G) (hJ : Jv N σ o n) (hN : N + 1 < 100000) (hv : v < 10000000) (hk : k < nS σ) (hP : va_P G.1 vwCl ((wL G q σ) ++ wX G ad σ T o n f x len) H) (hD : va_D A0 ((wL G q σ) ++ wX G ad σ T o n f x len)) (hS : va_S A0 st.heap H locs) (hl : lv_has ls 43 [(0, .ref (ad 0 0)), (1, .ref (q 0)), (2, .ref (q 1)), (3, .ref (q 2)), (4, .ref (q 3)), (6, .int (nI v)), (8, .int (nI k))]) (hret : AR pr l en st mi ar bl me cd Q G q ad x len A0 (N + 1)) : W pr l en (zRm 7 176) st mi ar bl me cd H locs 0 0 Q (F0 mi 1405 ls []) := by
  obtain ⟨hx, hb, hml, hown, hts, hG⟩ := id C0
  obtain ⟨hO, hC, ho, hn, hM⟩ := id hJ
  have hc := hO.c
  have hs := hO.lS
  have hne := hO.lE
  have hM6 := hM.s
  have hM7 := hM.e
  have hM4 := hM.r
  have hM1 := hM.1
  have hM2 := hM.2
  have hNN := hO.N
  have hg2 := hO.2.2.1
  have hg3 := hO.2.2.2.1
  have hsc := hO.sc (show k < 36 by omega)
  have hc96 := hts (.constant RL 96 (1000000)) (List.mem_cons_of_mem _ (List.mem_append_left _ (List.mem_cons_of_mem _ List.mem_cons_self)))
  refine lv_aload_n hx hb dL_acts_1405 rfl (lv_at hl 2 rfl) ?_
  refine lv_bipush (v := nI 12) hx hb dL_acts_1406 (by decide) ?_
  refine lv_iload hx hb dL_acts_1408 (lv_at hl 6 rfl) ?_
  refine lv_iadd hx hb dL_acts_1410 ?_
  refine lv_topi (nm_r (e' := nI (12 + k)) (nI_add _ _) ?_)
  refine va_iald hx hb hG.1 hP 1 0 rfl rfl (vp_in_nI (n := 12 + k) (N := 18) (by omega) (by omega)) dL_acts_1411 ?_
  refine lv_topi (nm_r (e' := nI (scn σ k)) (by rw [nI_clamp (by omega)]; unfold rF; rw [if_neg (by omega), if_neg (by omega), Nat.add_sub_cancel_left]) ?_)
  refine lv_istore (lv' := [(39, .int (nI (scn σ k))), (0, .ref (ad 0 0)), (1, .ref (q 0)), (2, .ref (q 1)), (3, .ref (q 2)), (4, .ref (q 3)), (6, .int (nI v)), (8, .int (nI k))]) hx hb dL_acts_1412 hl (by decide) rfl (fun ls hl => ?_)
  refine lv_aload_n hx hb dL_acts_1414 rfl (lv_at hl 3 rfl) ?_
  refine lv_bipush (v := nI 12) hx hb dL_acts_1415 (by decide) ?_
  refine lv_iload hx hb dL_acts_1417 (lv_at hl 7 rfl) ?_
  refine lv_iadd hx hb dL_acts_1419 ?_
  refine lv_topi (nm_r (e' := nI (12 + k)) (nI_add _ _) ?_)
  refine lv_iconst (v := nI 1) hx hb dL_acts_1420 (by decide) ?_
  refine lv_iload hx hb dL_acts_1421 (lv_at hl 6 rfl) ?_
  refine lv_bipush (v := nI 6) hx hb dL_acts_1423 (by decide) ?_
  refine lv_idiv hx hb dL_acts_1425 (nI_ne0 (by omega) (by omega)) ?_
  refine lv_topi (nm_r (e' := nI (v / 6)) (pk_div (by omega) (by omega) (by omega)) ?_)
  have hm61 : 1 ≤ (if v % 2 = 0 then 1000000 else 2000) ∧ (if v % 2 = 0 then 1000000 else 2000) ≤ 1000000 := by by_cases z : v % 2 = 0 <;> simp [z]
  obtain ⟨m6, hm6⟩ : ∃ m6, m6 = (if v % 2 = 0 then 1000000 else 2000) := ⟨_, rfl⟩
  rw [← hm6] at hm61
  have mg1426 : W pr l en (zRm 7 176) st mi ar bl me cd H locs 0 0 Q (F0 mi 1441 ls [.int (nI m6), .int (nI (v / 6)), .int (nI 1), .int (nI (12 + k)), .ref (q 1)]) := by
    refine lv_irem hx hb dL_acts_1441 (nI_ne0 (by omega) (by omega)) ?_
    refine lv_topi (nm_r (e' := nI ((v / 6) % m6)) (pk_rem (by omega) (by omega) (by omega)) ?_)
    obtain ⟨sw, hsw⟩ : ∃ sw, sw = 1 + v / 6 % m6 := ⟨_, rfl⟩
    have hsl := Nat.mod_lt (v / 6) (show 0 < m6 by omega)
    refine lv_iadd hx hb dL_acts_1442 ?_
    refine lv_topi (nm_r (e' := nI (1 + ((v / 6) % m6))) (nI_add _ _) ?_)
    refine lv_topi (nm_r (e' := (nI sw)) (by rw [hsw]) ?_)
    refine va_iast hx hb hG.1 hP hD hS 1 0 rfl rfl (vp_in_nI (n := 12 + k) (N := 18) (by omega) (by omega)) dL_acts_1443 (fun H locs hP hD hS => ?_)
    rw [nI_clamp (show 12 + k < 2 ^ 31 by omega)] at hP hD
    have hP : va_P G.1 vwCl ((wL0 G q (gF σ) (upd (rF σ) (12 + k) (nI sw)) (aF σ) (bF σ)) ++ wX G ad σ T o n f x len) H := hP
    have hD : va_D A0 ((wL0 G q (gF σ) (upd (rF σ) (12 + k) (nI sw)) (aF σ) (bF σ)) ++ wX G ad σ T o n f x len) := hD
    have hP : va_P G.1 vwCl ((wL G q (su σ (116 + 53 * k) sw)) ++ wX G ad σ T o n f x len) H := wL_x (hi_g σ (by omega) _) (rF_sc σ (by omega) _) (hi_a σ (by omega) _) (hi_b σ (by omega) _) hP
    have hD : va_D A0 ((wL G q (su σ (116 + 53 * k) sw)) ++ wX G ad σ T o n f x len) := wL_d hD
    refine lv_aload_n hx hb dL_acts_1444 rfl (lv_at hl 1 rfl) ?_
    refine lv_iload hx hb dL_acts_1445 (lv_at hl 7 rfl) ?_
    refine lv_aload_n hx hb dL_acts_1447 rfl (lv_at hl 3 rfl) ?_
    refine lv_bipush (v := nI 12) hx hb dL_acts_1448 (by decide) ?_
    refine lv_iload hx hb dL_acts_1450 (lv_at hl 7 rfl) ?_
    refine lv_iadd hx hb dL_acts_1452 ?_
    refine lv_topi (nm_r (e' := nI (12 + k)) (nI_add _ _) ?_)
    refine va_iald hx hb hG.1 hP 1 0 rfl rfl (vp_in_nI (n := 12 + k) (N := 18) (by omega) (by omega)) dL_acts_1453 ?_
    refine lv_topi (nm_r (e' := nI (scn (su σ (116 + 53 * k) sw) k)) (by rw [nI_clamp (by omega)]; unfold rF; rw [if_neg (by omega), if_neg (by omega), Nat.add_sub_cancel_left]) ?_)
    refine lv_topi (nm_r (e' := (nI sw)) (congrArg nI (su_at _ _ _)) ?_)
    refine zwrR (G := G) (w1 := (wL G q (su σ (116 + 53 * k) sw))) (wc := wX G ad σ T o n f x len) (wc' := wX G ad (su σ (116 + 53 * k) sw) (upT T ((o + n) % 5) σ) (nO o n) (nN n) f x len) (va_runV (As := [.int (nI k), .int (nI sw)]) (rest := []) ⟨hx, hb, hml, hown, hts⟩ (kX4_scale_ok l G ad σ T o n f x len k sw (hO) (by omega) (by omega) (by omega) (by omega) (by omega) (zD_any (zD_r hD))) (cwV 2 hts gL_acts_X4_scale rfl rfl rfl (by decide +kernel) ⟨Nat.le_of_ble_eq_true rfl, Nat.le_of_ble_eq_true rfl⟩) (zPreV hG (va_recv (q0 := 0) (ci := 4) hG.1 (zP_r hP) rfl rfl) (zP_r hP)) rfl rfl hl.1 rfl (lv_room (Nat.le_of_ble_eq_true rfl)) dL_acts_1454 ⟨Nat.le_of_ble_eq_true rfl, Nat.le_of_ble_eq_true rfl⟩) hP hD hS (wX_map ..) (fun H locs hP hD hS => ?_)
    refine lv_iload hx hb dL_acts_1457 (lv_at hl 0 rfl) ?_
    refine lv_icmp_ne (tgt := 1466) hx hb dL_acts_1459 (by decide) (fun h1459 => ?_) (fun h1459 => ?_)
    · skip
      exact absurd rfl h1459
    · skip
      refine lv_iconst (v := nI 1) hx hb dL_acts_1462 (by decide) ?_
      refine lv_goto (tgt := 1467) hx hb dL_acts_1463 (by decide) ?_
      exact hret _ _ _ _ _ _ _ _ _ dL_acts_1467 hS (⟨(hO.su_sc ⟨by omega, by omega⟩).up hN, cln_su hO hC (by omega) (fun k y hy => by omega) (fun e he => by omega), jO ho, jN hn, hM.su (by omega)⟩) hP
  refine lv_iload hx hb dL_acts_1426 (lv_at hl 6 rfl) ?_
  refine lv_iconst (v := nI 2) hx hb dL_acts_1428 (by decide) ?_
  refine lv_irem hx hb dL_acts_1429 (nI_ne0 (by omega) (by omega)) ?_
  refine lv_topi (nm_r (e' := nI (v % 2)) (pk_rem (by omega) (by omega) (by omega)) ?_)
  refine lv_if_ne (tgt := 1438) hx hb dL_acts_1430 (by decide) (fun h1430 => ?_) (fun h1430 => ?_)
  · skip
    have h1430 : ¬ ((v % 2) = 0) := fun q => h1430 ((z_eq0 (by omega)).mpr q)
    have h1430 : 0 < (v % 2) := Nat.pos_of_ne_zero h1430
    refine lv_sipush (v := nI 2000) hx hb dL_acts_1438 (by decide) ?_
    refine lv_topi (nm_r (e' := (nI m6)) (by rw [hm6, if_neg (by omega)]) ?_)
    exact mg1426
  · skip
    have h1430 : (v % 2) = 0 := (z_eq0 (by omega)).mp h1430
    refine lv_ldc hx hb hown hc96 dL_acts_1433 ?_
    refine lv_topi (nm_r (e' := nI 1000000) rfl ?_)
    refine lv_goto (tgt := 1441) hx hb dL_acts_1435 (by decide) ?_
    refine lv_topi (nm_r (e' := (nI m6)) (by rw [hm6, if_pos (by omega)]) ?_)
    exact mg1426
