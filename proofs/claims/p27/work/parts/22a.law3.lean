set_option maxHeartbeats 8000000 in
set_option maxRecDepth 100000 in
theorem kL_areEdges (l : Launch) (G : zG) (q : Nat → Nat) (ad : Nat → Nat → Nat) (σ : Nat → Nat) (T : Nat → Nat → Nat) (o n : Nat) (f : Nat → Int32) (x : Nat → Nat) (len : Nat) {N : Nat} (hO : Ok N σ) (hM : Sml σ) (hC : Cln σ) (ho : o < 5) (hn : n ≤ 4) (hd : va_D (fun _ => True) ((wL G q σ) ++ wX G ad σ T o n f x len)) : Met l yL_areEdges wsL_areEdges (zRm 7 155) (zPc G [.ref (ad 0 0), .ref (q 0), .ref (q 2), .ref (q 3)] (va_P G.1 vwCl ((wL G q σ) ++ wX G ad σ T o n f x len))) (zQ (zA ((wL G q σ) ++ wX G ad σ T o n f x len)) (some (.int (nI 1))) (va_P G.1 vwCl (wL G q σ ++ wX G ad σ T o n f x len))) 0 0 (zA ((wL G q σ) ++ wX G ad σ T o n f x len)) := by
  refine zmkWz (v := True) (w := ((wL G q σ) ++ wX G ad σ T o n f x len)) hd (cc := cL_areEdges) (maxL := 16) (by decide) rfl (Nat.le_of_ble_eq_true rfl) ?_
  intro pr en st mi ar bl me cd ls Q hx hb hml hown hts hG hP hl hD hS hret
  have hown : st.vm.findClass RL = some mi.cls := hown
  have hl : lv_has ls 16 [(0, .ref (ad 0 0)), (1, .ref (q 0)), (2, .ref (q 2)), (3, .ref (q 3))] := hl
  have hP : va_P G.1 vwCl ((wL G q σ) ++ wX G ad σ T o n f x len) st.heap := hP
  have hD : va_D (zA ((wL G q σ) ++ wX G ad σ T o n f x len)) ((wL G q σ) ++ wX G ad σ T o n f x len) := hD
  have hc := hO.c
  have hs := hO.lS
  have hne := hO.lE
  have hM6 := hM.s
  have hM7 := hM.e
  have hM4 := hM.r
  have hM1 := hM.1
  have hM2 := hM.2
  obtain ⟨H, hH⟩ : ∃ H, H = st.heap := ⟨_, rfl⟩
  obtain ⟨locs, hlo⟩ : ∃ locs : List Loc, locs = [] := ⟨_, rfl⟩
  have hP : va_P G.1 vwCl ((wL G q σ) ++ wX G ad σ T o n f x len) H := by rw [hH]; exact hP
  have hS : va_S (zA ((wL G q σ) ++ wX G ad σ T o n f x len)) st.heap H locs := by rw [hH, hlo]; exact hS
  suffices hgo : W pr l en (zRm 7 155) st mi ar bl me cd H locs 0 0 Q (F0 mi 0 ls []) by rw [hH, hlo] at hgo; exact hgo
  clear hH hlo
  refine lv_iconst (v := nI 0) hx hb dL_areEdges_0 (by decide) ?_
  refine lv_istore (lv' := [(4, .int (nI 0)), (0, .ref (ad 0 0)), (1, .ref (q 0)), (2, .ref (q 2)), (3, .ref (q 3))]) hx hb dL_areEdges_1 hl (by decide) rfl (fun ls hl => ?_)
  refine lv_iconst (v := nI 0) hx hb dL_areEdges_3 (by decide) ?_
  refine lv_istore (lv' := [(5, .int (nI 0)), (4, .int (nI 0)), (0, .ref (ad 0 0)), (1, .ref (q 0)), (2, .ref (q 2)), (3, .ref (q 3))]) hx hb dL_areEdges_4 hl (by decide) rfl (fun ls hl => ?_)
  refine lv_iconst (v := nI 0) hx hb dL_areEdges_6 (by decide) ?_
  refine lv_istore (lv' := [(6, .int (nI 0)), (5, .int (nI 0)), (4, .int (nI 0)), (0, .ref (ad 0 0)), (1, .ref (q 0)), (2, .ref (q 2)), (3, .ref (q 3))]) hx hb dL_areEdges_7 hl (by decide) rfl (fun ls hl => ?_)
  refine lv_iconst (v := nI 0) hx hb dL_areEdges_9 (by decide) ?_
  refine lv_istore (lv' := [(7, .int (nI 0)), (6, .int (nI 0)), (5, .int (nI 0)), (4, .int (nI 0)), (0, .ref (ad 0 0)), (1, .ref (q 0)), (2, .ref (q 2)), (3, .ref (q 3))]) hx hb dL_areEdges_10 hl (by decide) rfl (fun ls hl => ?_)
  refine lv_iconst (v := nI 1) hx hb dL_areEdges_12 (by decide) ?_
  refine lv_istore (lv' := [(8, .int (nI 1)), (7, .int (nI 0)), (6, .int (nI 0)), (5, .int (nI 0)), (4, .int (nI 0)), (0, .ref (ad 0 0)), (1, .ref (q 0)), (2, .ref (q 2)), (3, .ref (q 3))]) hx hb dL_areEdges_13 hl (by decide) rfl (fun ls hl => ?_)
  have loop15 : ∀ (m : Nat) (e : Nat) (cl : Nat) (al : Nat) (ag : Nat) (hcl : cl = sm (fun e => if qrl σ e = 0 then 1 else 0) e) (hal : al = sm (fun e => qrl σ e) e) (hag : ag = sm (fun e => if agn σ e = 1 then 1 else 0) e) (he : e ≤ nE σ) (hm : nE σ < e + m) (ls : Array Slot) (hl : lv_has ls 16 [(0, .ref (ad 0 0)), (1, .ref (q 0)), (2, .ref (q 2)), (3, .ref (q 3)), (4, .int (nI e)), (5, .int (nI cl)), (6, .int (nI al)), (7, .int (nI ag)), (8, .int (nI 1))]) (H : Heap) (locs : List Loc) (hP : va_P G.1 vwCl ((wL G q σ) ++ wX G ad σ T o n f x len) H) (hD : va_D (zA ((wL G q σ) ++ wX G ad σ T o n f x len)) ((wL G q σ) ++ wX G ad σ T o n f x len)) (hS : va_S (zA ((wL G q σ) ++ wX G ad σ T o n f x len)) st.heap H locs), W pr l en (zRm 7 155) st mi ar bl me cd H locs 0 0 Q (F0 mi 15 ls []) := by
    intro m
    induction m with
    | zero => intro e cl al ag hcl hal hag he hm ls hl H locs hP hD hS; exfalso; omega
    | succ m ih15 =>
      intro e cl al ag hcl hal hag he hm ls hl H locs hP hD hS
      refine lv_aload_n hx hb dL_areEdges_15 rfl (lv_at hl 1 rfl) ?_
      refine lv_iload hx hb dL_areEdges_16 (lv_at hl 4 rfl) ?_
      refine zrdS (As := [.ref (q 0), .int (nI e)]) ⟨hx, hb, hml, hown, hts⟩ (kL_edge l G q σ e (hO) (hM) (by omega)) (va_cwS 2 hts gL_areEdges_L_edge rfl rfl rfl (by decide +kernel) ⟨Nat.le_of_ble_eq_true rfl, Nat.le_of_ble_eq_true rfl⟩) hG (zP_l hP) rfl rfl hl.1 dL_areEdges_18 (Nat.le_of_ble_eq_true rfl) ⟨Nat.le_of_ble_eq_true rfl, Nat.le_of_ble_eq_true rfl⟩ ?_
      refine lv_if_lt (tgt := 425) hx hb dL_areEdges_21 (by decide) (fun h21 => ?_) (fun h21 => ?_)
      · skip
        have h21 : nE σ ≤ e := (eL_lt hO hM).mp h21
        have hee : e = nE σ := by omega
        refine lv_iload hx hb dL_areEdges_425 (lv_at hl 8 rfl) ?_
        refine lv_if_eq (tgt := 486) hx hb dL_areEdges_427 (by decide) (fun h427 => ?_) (fun h427 => ?_)
        · skip
          have h427 : 1 = 0 := (z_eq0 (by omega)).mp h427
          exfalso; omega
        · skip
          have h427 : ¬ (1 = 0) := fun q => h427 ((z_eq0 (by omega)).mpr q)
          have h427 : 0 < 1 := Nat.pos_of_ne_zero h427
          refine lv_aload_n hx hb dL_areEdges_430 rfl (lv_at hl 0 rfl) ?_
          refine lv_iconst (v := nI 3) hx hb dL_areEdges_431 (by decide) ?_
          refine zwrR (G := G) (w1 := (wL G q σ)) (wc := wX G ad σ T o n f x len) (wc' := wX G ad σ T o n f x len) (va_runV (As := [.int (nI 3)]) (rest := []) ⟨hx, hb, hml, hown, hts⟩ (kX4_count_3 l G ad σ T o n f x len (hO) (by omega) (by omega) (zD_any (zD_r hD))) (cwV 1 hts gL_areEdges_X4_count rfl rfl rfl (by decide +kernel) ⟨Nat.le_of_ble_eq_true rfl, Nat.le_of_ble_eq_true rfl⟩) (zPreV hG (va_recv (q0 := 0) (ci := 4) hG.1 (zP_r hP) rfl rfl) (zP_r hP)) rfl rfl hl.1 rfl (lv_room (Nat.le_of_ble_eq_true rfl)) dL_areEdges_432 ⟨Nat.le_of_ble_eq_true rfl, Nat.le_of_ble_eq_true rfl⟩) hP hD hS (wX_map ..) (fun H locs hP hD hS => ?_)
          refine lv_iload hx hb dL_areEdges_435 (lv_at hl 4 rfl) ?_
          refine lv_icmp_ne (tgt := 486) hx hb dL_areEdges_437 (by decide) (fun h437 => ?_) (fun h437 => ?_)
          · skip
            exact absurd (congrArg nI (hee.symm)) h437
          · skip
            refine lv_aload_n hx hb dL_areEdges_440 rfl (lv_at hl 0 rfl) ?_
            refine lv_iconst (v := nI 4) hx hb dL_areEdges_441 (by decide) ?_
            refine zwrR (G := G) (w1 := (wL G q σ)) (wc := wX G ad σ T o n f x len) (wc' := wX G ad σ T o n f x len) (va_runV (As := [.int (nI 4)]) (rest := []) ⟨hx, hb, hml, hown, hts⟩ (kX4_count_4 l G ad σ T o n f x len (hO) (by omega) (by omega) (zD_any (zD_r hD))) (cwV 1 hts gL_areEdges_X4_count rfl rfl rfl (by decide +kernel) ⟨Nat.le_of_ble_eq_true rfl, Nat.le_of_ble_eq_true rfl⟩) (zPreV hG (va_recv (q0 := 0) (ci := 4) hG.1 (zP_r hP) rfl rfl) (zP_r hP)) rfl rfl hl.1 rfl (lv_room (Nat.le_of_ble_eq_true rfl)) dL_areEdges_442 ⟨Nat.le_of_ble_eq_true rfl, Nat.le_of_ble_eq_true rfl⟩) hP hD hS (wX_map ..) (fun H locs hP hD hS => ?_)
            refine lv_iload hx hb dL_areEdges_445 (lv_at hl 7 rfl) ?_
            refine lv_icmp_ne (tgt := 486) hx hb dL_areEdges_447 (by decide) (fun h447 => ?_) (fun h447 => ?_)
            · skip
              exact absurd (congrArg nI (by rw [hag, hee]; rfl)) h447
            · skip
              refine lv_aload_n hx hb dL_areEdges_450 rfl (lv_at hl 0 rfl) ?_
              refine lv_iconst (v := nI 5) hx hb dL_areEdges_451 (by decide) ?_
              refine zwrR (G := G) (w1 := (wL G q σ)) (wc := wX G ad σ T o n f x len) (wc' := wX G ad σ T o n f x len) (va_runV (As := [.int (nI 5)]) (rest := []) ⟨hx, hb, hml, hown, hts⟩ (kX4_count_5 l G ad σ T o n f x len (hO) (by omega) (by omega) (zD_any (zD_r hD))) (cwV 1 hts gL_areEdges_X4_count rfl rfl rfl (by decide +kernel) ⟨Nat.le_of_ble_eq_true rfl, Nat.le_of_ble_eq_true rfl⟩) (zPreV hG (va_recv (q0 := 0) (ci := 4) hG.1 (zP_r hP) rfl rfl) (zP_r hP)) rfl rfl hl.1 rfl (lv_room (Nat.le_of_ble_eq_true rfl)) dL_areEdges_452 ⟨Nat.le_of_ble_eq_true rfl, Nat.le_of_ble_eq_true rfl⟩) hP hD hS (wX_map ..) (fun H locs hP hD hS => ?_)
              refine lv_iload hx hb dL_areEdges_455 (lv_at hl 5 rfl) ?_
              refine lv_icmp_ne (tgt := 486) hx hb dL_areEdges_457 (by decide) (fun h457 => ?_) (fun h457 => ?_)
              · skip
                exact absurd (congrArg nI (by rw [hcl, hee]; rfl)) h457
              · skip
                refine lv_aload_n hx hb dL_areEdges_460 rfl (lv_at hl 0 rfl) ?_
                refine lv_bipush (v := nI 6) hx hb dL_areEdges_461 (by decide) ?_
                refine zwrR (G := G) (w1 := (wL G q σ)) (wc := wX G ad σ T o n f x len) (wc' := wX G ad σ T o n f x len) (va_runV (As := [.int (nI 6)]) (rest := []) ⟨hx, hb, hml, hown, hts⟩ (kX4_count_6 l G ad σ T o n f x len (hO) (by omega) (by omega) (zD_any (zD_r hD))) (cwV 1 hts gL_areEdges_X4_count rfl rfl rfl (by decide +kernel) ⟨Nat.le_of_ble_eq_true rfl, Nat.le_of_ble_eq_true rfl⟩) (zPreV hG (va_recv (q0 := 0) (ci := 4) hG.1 (zP_r hP) rfl rfl) (zP_r hP)) rfl rfl hl.1 rfl (lv_room (Nat.le_of_ble_eq_true rfl)) dL_areEdges_463 ⟨Nat.le_of_ble_eq_true rfl, Nat.le_of_ble_eq_true rfl⟩) hP hD hS (wX_map ..) (fun H locs hP hD hS => ?_)
                refine lv_iload hx hb dL_areEdges_466 (lv_at hl 6 rfl) ?_
                refine lv_icmp_ne (tgt := 486) hx hb dL_areEdges_468 (by decide) (fun h468 => ?_) (fun h468 => ?_)
                · skip
                  exact absurd (congrArg nI (by rw [hal, hee]; rfl)) h468
                · skip
                  refine lv_aload_n hx hb dL_areEdges_471 rfl (lv_at hl 0 rfl) ?_
                  refine lv_iload hx hb dL_areEdges_472 (lv_at hl 4 rfl) ?_
                  refine lv_iconst (v := nI 0) hx hb dL_areEdges_474 (by decide) ?_
                  refine zwrR (G := G) (w1 := (wL G q σ)) (wc := wX G ad σ T o n f x len) (wc' := wX G ad σ T o n f x len) (va_runV (As := [.int (nI e), .int (nI 0)]) (rest := []) ⟨hx, hb, hml, hown, hts⟩ (kX4_edge_inv l G ad σ T o n f x len (nI e) (nI 0) (hO) (by omega) (by omega) (fun z => absurd ((nI_ltI (by omega) (by omega)).mp z.2) (by omega)) (zD_any (zD_r hD))) (cwV 2 hts gL_areEdges_X4_edge rfl rfl rfl (by decide +kernel) ⟨Nat.le_of_ble_eq_true rfl, Nat.le_of_ble_eq_true rfl⟩) (zPreV hG (va_recv (q0 := 0) (ci := 4) hG.1 (zP_r hP) rfl rfl) (zP_r hP)) rfl rfl hl.1 rfl (lv_room (Nat.le_of_ble_eq_true rfl)) dL_areEdges_475 ⟨Nat.le_of_ble_eq_true rfl, Nat.le_of_ble_eq_true rfl⟩) hP hD hS (wX_map ..) (fun H locs hP hD hS => ?_)
                  refine lv_iconst (v := (-1)) hx hb dL_areEdges_478 (by decide) ?_
                  refine lv_icmp_ne (tgt := 486) hx hb dL_areEdges_479 (by decide) (fun h479 => ?_) (fun h479 => ?_)
                  · skip
                    exact absurd rfl h479
                  · skip
                    refine lv_iconst (v := nI 1) hx hb dL_areEdges_482 (by decide) ?_
                    refine lv_goto (tgt := 487) hx hb dL_areEdges_483 (by decide) ?_
                    exact hret _ _ _ _ _ dL_areEdges_487 hS (hP) (z_t (trivial))
      · skip
        have h21 : ¬ (nE σ ≤ e) := fun q => h21 ((eL_lt hO hM).mpr q)
        refine lv_iload hx hb dL_areEdges_24 (lv_at hl 8 rfl) ?_
        refine lv_if_eq (tgt := 425) hx hb dL_areEdges_26 (by decide) (fun h26 => ?_) (fun h26 => ?_)
        · skip
          have h26 : 1 = 0 := (z_eq0 (by omega)).mp h26
          exfalso; omega
        · skip
          have h26 : ¬ (1 = 0) := fun q => h26 ((z_eq0 (by omega)).mpr q)
          have h26 : 0 < 1 := Nat.pos_of_ne_zero h26
          refine lv_aload_n hx hb dL_areEdges_29 rfl (lv_at hl 1 rfl) ?_
          refine lv_iload hx hb dL_areEdges_30 (lv_at hl 4 rfl) ?_
          refine zrdS (As := [.ref (q 0), .int (nI e)]) ⟨hx, hb, hml, hown, hts⟩ (kL_edge l G q σ e (hO) (hM) (by omega)) (va_cwS 2 hts gL_areEdges_L_edge rfl rfl rfl (by decide +kernel) ⟨Nat.le_of_ble_eq_true rfl, Nat.le_of_ble_eq_true rfl⟩) hG (zP_l hP) rfl rfl hl.1 dL_areEdges_32 (Nat.le_of_ble_eq_true rfl) ⟨Nat.le_of_ble_eq_true rfl, Nat.le_of_ble_eq_true rfl⟩ ?_
          refine lv_topi (nm_r (e' := (nI (its σ e))) (eL_in (by omega)) ?_)
          refine lv_istore (lv' := [(9, .int (nI (its σ e))), (0, .ref (ad 0 0)), (1, .ref (q 0)), (2, .ref (q 2)), (3, .ref (q 3)), (4, .int (nI e)), (5, .int (nI cl)), (6, .int (nI al)), (7, .int (nI ag)), (8, .int (nI 1))]) hx hb dL_areEdges_35 hl (by decide) rfl (fun ls hl => ?_)
          have hff := its_f hO hM (show e < nE σ by omega)
          have h10 := its_10 hO hM (show e < nE σ by omega)
          have hfd := fD_lt σ e
          have hsd := sD_lt σ e
          have hag1 := hO.ag (show e < 60 by omega)
          have hql := qrl_le σ e
          refine lv_iconst (v := nI 0) hx hb dL_areEdges_37 (by decide) ?_
          refine lv_istore (lv' := [(10, .int (nI 0)), (9, .int (nI (its σ e))), (0, .ref (ad 0 0)), (1, .ref (q 0)), (2, .ref (q 2)), (3, .ref (q 3)), (4, .int (nI e)), (5, .int (nI cl)), (6, .int (nI al)), (7, .int (nI ag)), (8, .int (nI 1))]) hx hb dL_areEdges_38 hl (by decide) rfl (fun ls hl => ?_)
          refine lv_iconst (v := nI 0) hx hb dL_areEdges_40 (by decide) ?_
          refine lv_istore (lv' := [(11, .int (nI 0)), (10, .int (nI 0)), (9, .int (nI (its σ e))), (0, .ref (ad 0 0)), (1, .ref (q 0)), (2, .ref (q 2)), (3, .ref (q 3)), (4, .int (nI e)), (5, .int (nI cl)), (6, .int (nI al)), (7, .int (nI ag)), (8, .int (nI 1))]) hx hb dL_areEdges_41 hl (by decide) rfl (fun ls hl => ?_)
          refine lv_iconst (v := nI 0) hx hb dL_areEdges_43 (by decide) ?_
          refine lv_istore (lv' := [(12, .int (nI 0)), (11, .int (nI 0)), (10, .int (nI 0)), (9, .int (nI (its σ e))), (0, .ref (ad 0 0)), (1, .ref (q 0)), (2, .ref (q 2)), (3, .ref (q 3)), (4, .int (nI e)), (5, .int (nI cl)), (6, .int (nI al)), (7, .int (nI ag)), (8, .int (nI 1))]) hx hb dL_areEdges_44 hl (by decide) rfl (fun ls hl => ?_)
          have loop46 : ∀ (w : Nat) (p : Nat) (i : Nat) (cr : Nat) (hi1 : i = qb σ e p) (hcr : cr = sm (fun p => (if sgn σ (fS σ e) (fD σ e) p = 10 ∨ sgn σ (sS σ e) (sD σ e) p = 10 then 0 else 1)) p) (hp : p ≤ 10) (hw : 10 < p + w) (ls : Array Slot) (hl : lv_has ls 16 [(0, .ref (ad 0 0)), (1, .ref (q 0)), (2, .ref (q 2)), (3, .ref (q 3)), (4, .int (nI e)), (5, .int (nI cl)), (6, .int (nI al)), (7, .int (nI ag)), (8, .int (nI 1)), (9, .int (nI (its σ e))), (10, .int (nI i)), (11, .int (nI cr)), (12, .int (nI p))]) (H : Heap) (locs : List Loc) (hP : va_P G.1 vwCl ((wL G q σ) ++ wX G ad σ T o n f x len) H) (hD : va_D (zA ((wL G q σ) ++ wX G ad σ T o n f x len)) ((wL G q σ) ++ wX G ad σ T o n f x len)) (hS : va_S (zA ((wL G q σ) ++ wX G ad σ T o n f x len)) st.heap H locs), W pr l en (zRm 7 155) st mi ar bl me cd H locs 0 0 Q (F0 mi 46 ls []) := by
            intro w
            induction w with
            | zero => intro p i cr hi1 hcr hp hw ls hl H locs hP hD hS; exfalso; omega
            | succ w ih46 =>
              intro p i cr hi1 hcr hp hw ls hl H locs hP hD hS
              have hib : i ≤ p := by rw [hi1]; exact qb_le σ e p
              refine lv_iload hx hb dL_areEdges_46 (lv_at hl 12 rfl) ?_
              refine lv_bipush (v := nI 10) hx hb dL_areEdges_48 (by decide) ?_
              refine lv_icmp_ge (tgt := 248) hx hb dL_areEdges_50 (by decide) (fun h50 => ?_) (fun h50 => ?_)
              · skip
                have h50 : 10 ≤ p := (nI_leI (by omega) (by omega)).mp h50
                have hp10 : p = 10 := by omega
                have hiq : i = qrl σ e := by rw [hi1, hp10]; rfl
                have hcc : cr = crs σ e := by rw [hcr, hp10]; rfl
                have hpn : pq σ e i = 10 := by rw [hiq]; exact pq_no σ e
                refine lv_iload hx hb dL_areEdges_248 (lv_at hl 8 rfl) ?_
                refine lv_if_eq (tgt := 381) hx hb dL_areEdges_250 (by decide) (fun h250 => ?_) (fun h250 => ?_)
                · skip
                  have h250 : 1 = 0 := (z_eq0 (by omega)).mp h250
                  exfalso; omega
                · skip
                  have h250 : ¬ (1 = 0) := fun q => h250 ((z_eq0 (by omega)).mpr q)
                  have h250 : 0 < 1 := Nat.pos_of_ne_zero h250
                  refine lv_aload_n hx hb dL_areEdges_253 rfl (lv_at hl 0 rfl) ?_
                  refine lv_iload hx hb dL_areEdges_254 (lv_at hl 4 rfl) ?_
                  refine lv_iload hx hb dL_areEdges_256 (lv_at hl 10 rfl) ?_
                  refine lv_iconst (v := nI 0) hx hb dL_areEdges_258 (by decide) ?_
                  refine zwrR (G := G) (w1 := (wL G q σ)) (wc := wX G ad σ T o n f x len) (wc' := wX G ad σ T o n f x len) (va_runV (As := [.int (nI e), .int (nI i), .int (nI 0)]) (rest := []) ⟨hx, hb, hml, hown, hts⟩ (kX4_quarrel_none0 l G ad σ T o n f x len e i (hO) (by omega) (by omega) (by omega) (by omega) (hpn) (zD_any (zD_r hD))) (cwV 3 hts gL_areEdges_X4_quarrel rfl rfl rfl (by decide +kernel) ⟨Nat.le_of_ble_eq_true rfl, Nat.le_of_ble_eq_true rfl⟩) (zPreV hG (va_recv (q0 := 0) (ci := 4) hG.1 (zP_r hP) rfl rfl) (zP_r hP)) rfl rfl hl.1 rfl (lv_room (Nat.le_of_ble_eq_true rfl)) dL_areEdges_259 ⟨Nat.le_of_ble_eq_true rfl, Nat.le_of_ble_eq_true rfl⟩) hP hD hS (wX_map ..) (fun H locs hP hD hS => ?_)
                  refine lv_bipush (v := (-4)) hx hb dL_areEdges_262 (by decide) ?_
                  refine lv_icmp_ne (tgt := 381) hx hb dL_areEdges_264 (by decide) (fun h264 => ?_) (fun h264 => ?_)
                  · skip
                    exact absurd rfl h264
                  · skip
                    refine lv_aload_n hx hb dL_areEdges_267 rfl (lv_at hl 0 rfl) ?_
                    refine lv_iload hx hb dL_areEdges_268 (lv_at hl 4 rfl) ?_
                    refine lv_iconst (v := nI 0) hx hb dL_areEdges_270 (by decide) ?_
                    refine zwrR (G := G) (w1 := (wL G q σ)) (wc := wX G ad σ T o n f x len) (wc' := wX G ad σ T o n f x len) (va_runV (As := [.int (nI e), .int (nI 0)]) (rest := []) ⟨hx, hb, hml, hown, hts⟩ (kX4_edge_0 l G ad σ T o n f x len e (hO) (by omega) (by omega) (by omega) (zD_any (zD_r hD))) (cwV 2 hts gL_areEdges_X4_edge rfl rfl rfl (by decide +kernel) ⟨Nat.le_of_ble_eq_true rfl, Nat.le_of_ble_eq_true rfl⟩) (zPreV hG (va_recv (q0 := 0) (ci := 4) hG.1 (zP_r hP) rfl rfl) (zP_r hP)) rfl rfl hl.1 rfl (lv_room (Nat.le_of_ble_eq_true rfl)) dL_areEdges_271 ⟨Nat.le_of_ble_eq_true rfl, Nat.le_of_ble_eq_true rfl⟩) hP hD hS (wX_map ..) (fun H locs hP hD hS => ?_)
                    refine lv_iload hx hb dL_areEdges_274 (lv_at hl 9 rfl) ?_
                    refine lv_bipush (v := nI 10) hx hb dL_areEdges_276 (by decide) ?_
                    refine lv_irem hx hb dL_areEdges_278 (nI_ne0 (by omega) (by omega)) ?_
                    refine lv_topi (nm_r (e' := nI ((its σ e) % 10)) (pk_rem (by omega) (by omega) (by omega)) ?_)
                    refine lv_topi (nm_r (e' := (nI (fS σ e))) (congrArg nI h10.2.1) ?_)
                    refine lv_icmp_ne (tgt := 381) hx hb dL_areEdges_279 (by decide) (fun h279 => ?_) (fun h279 => ?_)
                    · skip
                      exact absurd rfl h279
                    · skip
                      refine lv_aload_n hx hb dL_areEdges_282 rfl (lv_at hl 0 rfl) ?_
                      refine lv_iload hx hb dL_areEdges_283 (lv_at hl 4 rfl) ?_
                      refine lv_iconst (v := nI 1) hx hb dL_areEdges_285 (by decide) ?_
                      refine zwrR (G := G) (w1 := (wL G q σ)) (wc := wX G ad σ T o n f x len) (wc' := wX G ad σ T o n f x len) (va_runV (As := [.int (nI e), .int (nI 1)]) (rest := []) ⟨hx, hb, hml, hown, hts⟩ (kX4_edge_1 l G ad σ T o n f x len e (hO) (by omega) (by omega) (by omega) (zD_any (zD_r hD))) (cwV 2 hts gL_areEdges_X4_edge rfl rfl rfl (by decide +kernel) ⟨Nat.le_of_ble_eq_true rfl, Nat.le_of_ble_eq_true rfl⟩) (zPreV hG (va_recv (q0 := 0) (ci := 4) hG.1 (zP_r hP) rfl rfl) (zP_r hP)) rfl rfl hl.1 rfl (lv_room (Nat.le_of_ble_eq_true rfl)) dL_areEdges_286 ⟨Nat.le_of_ble_eq_true rfl, Nat.le_of_ble_eq_true rfl⟩) hP hD hS (wX_map ..) (fun H locs hP hD hS => ?_)
                      refine lv_aload_n hx hb dL_areEdges_289 rfl (lv_at hl 1 rfl) ?_
                      refine lv_iload hx hb dL_areEdges_290 (lv_at hl 9 rfl) ?_
                      refine zrdS (As := [.ref (q 0), .int (nI (its σ e))]) ⟨hx, hb, hml, hown, hts⟩ (kL_other l G q σ e (hO) (hM) (by omega)) (va_cwS 2 hts gL_areEdges_L_other rfl rfl rfl (by decide +kernel) ⟨Nat.le_of_ble_eq_true rfl, Nat.le_of_ble_eq_true rfl⟩) hG (zP_l hP) rfl rfl hl.1 dL_areEdges_292 (Nat.le_of_ble_eq_true rfl) ⟨Nat.le_of_ble_eq_true rfl, Nat.le_of_ble_eq_true rfl⟩ ?_
                      refine lv_icmp_ne (tgt := 381) hx hb dL_areEdges_295 (by decide) (fun h295 => ?_) (fun h295 => ?_)
                      · skip
                        exact absurd rfl h295
                      · skip
                        refine lv_aload_n hx hb dL_areEdges_298 rfl (lv_at hl 0 rfl) ?_
                        refine lv_iload hx hb dL_areEdges_299 (lv_at hl 4 rfl) ?_
                        refine lv_iconst (v := nI 2) hx hb dL_areEdges_301 (by decide) ?_
                        refine zwrR (G := G) (w1 := (wL G q σ)) (wc := wX G ad σ T o n f x len) (wc' := wX G ad σ T o n f x len) (va_runV (As := [.int (nI e), .int (nI 2)]) (rest := []) ⟨hx, hb, hml, hown, hts⟩ (kX4_edge_2 l G ad σ T o n f x len e (hO) (by omega) (by omega) (by omega) (zD_any (zD_r hD))) (cwV 2 hts gL_areEdges_X4_edge rfl rfl rfl (by decide +kernel) ⟨Nat.le_of_ble_eq_true rfl, Nat.le_of_ble_eq_true rfl⟩) (zPreV hG (va_recv (q0 := 0) (ci := 4) hG.1 (zP_r hP) rfl rfl) (zP_r hP)) rfl rfl hl.1 rfl (lv_room (Nat.le_of_ble_eq_true rfl)) dL_areEdges_302 ⟨Nat.le_of_ble_eq_true rfl, Nat.le_of_ble_eq_true rfl⟩) hP hD hS (wX_map ..) (fun H locs hP hD hS => ?_)
                        have mg305 : W pr l en (zRm 7 155) st mi ar bl me cd H locs 0 0 Q (F0 mi 317 ls [.int (nI (fD σ e)), .int (nI (fD σ e))]) := by
                          refine lv_icmp_ne (tgt := 381) hx hb dL_areEdges_317 (by decide) (fun h317 => ?_) (fun h317 => ?_)
                          · skip
                            exact absurd rfl h317
                          · skip
                            refine lv_aload_n hx hb dL_areEdges_320 rfl (lv_at hl 0 rfl) ?_
                            refine lv_iload hx hb dL_areEdges_321 (lv_at hl 4 rfl) ?_
                            refine lv_iconst (v := nI 3) hx hb dL_areEdges_323 (by decide) ?_
                            refine zwrR (G := G) (w1 := (wL G q σ)) (wc := wX G ad σ T o n f x len) (wc' := wX G ad σ T o n f x len) (va_runV (As := [.int (nI e), .int (nI 3)]) (rest := []) ⟨hx, hb, hml, hown, hts⟩ (kX4_edge_3 l G ad σ T o n f x len e (hO) (by omega) (by omega) (by omega) (zD_any (zD_r hD))) (cwV 2 hts gL_areEdges_X4_edge rfl rfl rfl (by decide +kernel) ⟨Nat.le_of_ble_eq_true rfl, Nat.le_of_ble_eq_true rfl⟩) (zPreV hG (va_recv (q0 := 0) (ci := 4) hG.1 (zP_r hP) rfl rfl) (zP_r hP)) rfl rfl hl.1 rfl (lv_room (Nat.le_of_ble_eq_true rfl)) dL_areEdges_324 ⟨Nat.le_of_ble_eq_true rfl, Nat.le_of_ble_eq_true rfl⟩) hP hD hS (wX_map ..) (fun H locs hP hD hS => ?_)
                            refine lv_topi (nm_r (e' := (nI (agn σ e))) (agn_i (by omega)) ?_)
                            refine lv_aload_n hx hb dL_areEdges_327 rfl (lv_at hl 1 rfl) ?_
                            refine lv_iconst (v := nI 4) hx hb dL_areEdges_328 (by decide) ?_
                            refine va_iald hx hb hG.1 hP 0 0 rfl rfl (vp_in_nI (n := 4) (N := 5) (by omega) (by omega)) dL_areEdges_329 ?_
                            refine lv_topi (nm_r (e' := nI (agM σ)) (by rw [nI_clamp (by omega)]; exact if_pos rfl) ?_)
                            refine lv_iload hx hb dL_areEdges_330 (lv_at hl 4 rfl) ?_
                            refine lv_ishr hx hb dL_areEdges_332 ?_
                            refine lv_iconst (v := nI 1) hx hb dL_areEdges_333 (by decide) ?_
                            refine lv_iand hx hb dL_areEdges_334 ?_
                            refine lv_topi (nm_r (e' := (nI (agn σ e))) (by rw [b_get _ (agM_lt hO) e (by omega), agM_bt hO (by omega)]) ?_)
                            refine lv_icmp_ne (tgt := 381) hx hb dL_areEdges_335 (by decide) (fun h335 => ?_) (fun h335 => ?_)
                            · skip
                              exact absurd rfl h335
                            · skip
                              refine lv_aload_n hx hb dL_areEdges_338 rfl (lv_at hl 0 rfl) ?_
                              refine lv_iload hx hb dL_areEdges_339 (lv_at hl 4 rfl) ?_
                              refine lv_iconst (v := nI 4) hx hb dL_areEdges_341 (by decide) ?_
                              refine zwrR (G := G) (w1 := (wL G q σ)) (wc := wX G ad σ T o n f x len) (wc' := wX G ad σ T o n f x len) (va_runV (As := [.int (nI e), .int (nI 4)]) (rest := []) ⟨hx, hb, hml, hown, hts⟩ (kX4_edge_4 l G ad σ T o n f x len e (hO) (by omega) (by omega) (by omega) (zD_any (zD_r hD))) (cwV 2 hts gL_areEdges_X4_edge rfl rfl rfl (by decide +kernel) ⟨Nat.le_of_ble_eq_true rfl, Nat.le_of_ble_eq_true rfl⟩) (zPreV hG (va_recv (q0 := 0) (ci := 4) hG.1 (zP_r hP) rfl rfl) (zP_r hP)) rfl rfl hl.1 rfl (lv_room (Nat.le_of_ble_eq_true rfl)) dL_areEdges_342 ⟨Nat.le_of_ble_eq_true rfl, Nat.le_of_ble_eq_true rfl⟩) hP hD hS (wX_map ..) (fun H locs hP hD hS => ?_)
                              refine lv_iload hx hb dL_areEdges_345 (lv_at hl 10 rfl) ?_
                              refine lv_icmp_ne (tgt := 381) hx hb dL_areEdges_347 (by decide) (fun h347 => ?_) (fun h347 => ?_)
                              · skip
                                exact absurd (congrArg nI (hiq.symm)) h347
                              · skip
                                refine lv_aload_n hx hb dL_areEdges_350 rfl (lv_at hl 0 rfl) ?_
                                refine lv_iload hx hb dL_areEdges_351 (lv_at hl 4 rfl) ?_
                                refine lv_iconst (v := nI 5) hx hb dL_areEdges_353 (by decide) ?_
                                refine zwrR (G := G) (w1 := (wL G q σ)) (wc := wX G ad σ T o n f x len) (wc' := wX G ad σ T o n f x len) (va_runV (As := [.int (nI e), .int (nI 5)]) (rest := []) ⟨hx, hb, hml, hown, hts⟩ (kX4_edge_5 l G ad σ T o n f x len e (hO) (by omega) (by omega) (by omega) (zD_any (zD_r hD))) (cwV 2 hts gL_areEdges_X4_edge rfl rfl rfl (by decide +kernel) ⟨Nat.le_of_ble_eq_true rfl, Nat.le_of_ble_eq_true rfl⟩) (zPreV hG (va_recv (q0 := 0) (ci := 4) hG.1 (zP_r hP) rfl rfl) (zP_r hP)) rfl rfl hl.1 rfl (lv_room (Nat.le_of_ble_eq_true rfl)) dL_areEdges_354 ⟨Nat.le_of_ble_eq_true rfl, Nat.le_of_ble_eq_true rfl⟩) hP hD hS (wX_map ..) (fun H locs hP hD hS => ?_)
                                refine lv_iload hx hb dL_areEdges_357 (lv_at hl 11 rfl) ?_
                                refine lv_icmp_ne (tgt := 381) hx hb dL_areEdges_359 (by decide) (fun h359 => ?_) (fun h359 => ?_)
                                · skip
                                  exact absurd (congrArg nI (hcc.symm)) h359
                                · skip
                                  refine lv_iload hx hb dL_areEdges_362 (lv_at hl 10 rfl) ?_
                                  refine lv_if_eq (tgt := 377) hx hb dL_areEdges_364 (by decide) (fun h364 => ?_) (fun h364 => ?_)
                                  · skip
                                    have h364 : i = 0 := (z_eq0 (by omega)).mp h364
                                    refine lv_iconst (v := nI 1) hx hb dL_areEdges_377 (by decide) ?_
                                    refine lv_goto (tgt := 382) hx hb dL_areEdges_378 (by decide) ?_
                                    refine lv_istore (lv' := [(8, .int (nI 1)), (0, .ref (ad 0 0)), (1, .ref (q 0)), (2, .ref (q 2)), (3, .ref (q 3)), (4, .int (nI e)), (5, .int (nI cl)), (6, .int (nI al)), (7, .int (nI ag)), (9, .int (nI (its σ e))), (10, .int (nI i)), (11, .int (nI cr)), (12, .int (nI p))]) hx hb dL_areEdges_382 hl (by decide) rfl (fun ls hl => ?_)
                                    refine lv_iload hx hb dL_areEdges_384 (lv_at hl 6 rfl) ?_
                                    have mg386 : W pr l en (zRm 7 155) st mi ar bl me cd H locs 0 0 Q (F0 mi 396 ls [.int (nI (if qrl σ e = 0 then 1 else 0)), .int (nI cl)]) := by
                                      refine lv_iadd hx hb dL_areEdges_396 ?_
                                      refine lv_topi (nm_r (e' := nI (cl + (if qrl σ e = 0 then 1 else 0))) (nI_add _ _) ?_)
                                      refine lv_istore (lv' := [(5, .int (nI (cl + (if qrl σ e = 0 then 1 else 0)))), (8, .int (nI 1)), (0, .ref (ad 0 0)), (1, .ref (q 0)), (2, .ref (q 2)), (3, .ref (q 3)), (4, .int (nI e)), (6, .int (nI al)), (7, .int (nI ag)), (9, .int (nI (its σ e))), (10, .int (nI i)), (11, .int (nI cr)), (12, .int (nI p))]) hx hb dL_areEdges_397 hl (by decide) rfl (fun ls hl => ?_)
                                      refine lv_iload hx hb dL_areEdges_399 (lv_at hl 7 rfl) ?_
                                      refine lv_iload hx hb dL_areEdges_401 (lv_at hl 10 rfl) ?_
                                      refine lv_iadd hx hb dL_areEdges_403 ?_
                                      refine lv_topi (nm_r (e' := nI (al + i)) (nI_add _ _) ?_)
                                      refine lv_istore (lv' := [(6, .int (nI (al + i))), (5, .int (nI (cl + (if qrl σ e = 0 then 1 else 0)))), (8, .int (nI 1)), (0, .ref (ad 0 0)), (1, .ref (q 0)), (2, .ref (q 2)), (3, .ref (q 3)), (4, .int (nI e)), (7, .int (nI ag)), (9, .int (nI (its σ e))), (10, .int (nI i)), (11, .int (nI cr)), (12, .int (nI p))]) hx hb dL_areEdges_404 hl (by decide) rfl (fun ls hl => ?_)
                                      refine lv_iload hx hb dL_areEdges_406 (lv_at hl 8 rfl) ?_
                                      refine lv_aload_n hx hb dL_areEdges_408 rfl (lv_at hl 4 rfl) ?_
                                      refine lv_iconst (v := nI 4) hx hb dL_areEdges_409 (by decide) ?_
                                      refine va_iald hx hb hG.1 hP 0 0 rfl rfl (vp_in_nI (n := 4) (N := 5) (by omega) (by omega)) dL_areEdges_410 ?_
                                      refine lv_topi (nm_r (e' := nI (agM σ)) (by rw [nI_clamp (by omega)]; exact if_pos rfl) ?_)
                                      refine lv_iload hx hb dL_areEdges_411 (lv_at hl 7 rfl) ?_
                                      refine lv_ishr hx hb dL_areEdges_413 ?_
                                      refine lv_iconst (v := nI 1) hx hb dL_areEdges_414 (by decide) ?_
                                      refine lv_iand hx hb dL_areEdges_415 ?_
                                      refine lv_topi (nm_r (e' := (nI (agn σ e))) (by rw [b_get _ (agM_lt hO) e (by omega), agM_bt hO (by omega)]) ?_)
                                      refine lv_iadd hx hb dL_areEdges_416 ?_
                                      refine lv_topi (nm_r (e' := nI (ag + (agn σ e))) (nI_add _ _) ?_)
                                      refine lv_istore (lv' := [(7, .int (nI (ag + (agn σ e)))), (6, .int (nI (al + i))), (5, .int (nI (cl + (if qrl σ e = 0 then 1 else 0)))), (8, .int (nI 1)), (0, .ref (ad 0 0)), (1, .ref (q 0)), (2, .ref (q 2)), (3, .ref (q 3)), (4, .int (nI e)), (9, .int (nI (its σ e))), (10, .int (nI i)), (11, .int (nI cr)), (12, .int (nI p))]) hx hb dL_areEdges_417 hl (by decide) rfl (fun ls hl => ?_)
                                      refine lv_iinc (v := nI (e + 1)) (lv' := [(4, .int (nI (e + 1))), (7, .int (nI (ag + (agn σ e)))), (6, .int (nI (al + i))), (5, .int (nI (cl + (if qrl σ e = 0 then 1 else 0)))), (8, .int (nI 1)), (0, .ref (ad 0 0)), (1, .ref (q 0)), (2, .ref (q 2)), (3, .ref (q 3)), (9, .int (nI (its σ e))), (10, .int (nI i)), (11, .int (nI cr)), (12, .int (nI p))]) hx hb dL_areEdges_419 hl (k := 8) rfl (zinc1 _) (by decide) rfl (fun ls hl => ?_)
                                      refine lv_goto (tgt := 15) hx hb dL_areEdges_422 (by decide) ?_
                                      exact ih15 (e + 1) (cl + (if qrl σ e = 0 then 1 else 0)) (al + i) (ag + agn σ e) (by rw [sm, ← hcl]) (by rw [sm, ← hal, hiq]) (by rw [sm, ← hag]; exact congrArg (ag + ·) (agn_n (by omega))) (by omega) (by omega) _ (lv_sub hl [5, 6, 7, 8, 0, 3, 2, 1, 4] rfl) _ _ hP hD hS
                                    refine lv_iload hx hb dL_areEdges_386 (lv_at hl 10 rfl) ?_
                                    refine lv_if_ne (tgt := 395) hx hb dL_areEdges_388 (by decide) (fun h388 => ?_) (fun h388 => ?_)
                                    · skip
                                      have h388 : ¬ (i = 0) := fun q => h388 ((z_eq0 (by omega)).mpr q)
                                      have h388 : 0 < i := Nat.pos_of_ne_zero h388
                                      refine lv_iconst (v := nI 0) hx hb dL_areEdges_395 (by decide) ?_
                                      refine lv_topi (nm_r (e' := (nI (if qrl σ e = 0 then 1 else 0))) (by rw [if_neg (by omega)]) ?_)
                                      exact mg386
                                    · skip
                                      have h388 : i = 0 := (z_eq0 (by omega)).mp h388
                                      refine lv_iconst (v := nI 1) hx hb dL_areEdges_391 (by decide) ?_
                                      refine lv_goto (tgt := 396) hx hb dL_areEdges_392 (by decide) ?_
                                      refine lv_topi (nm_r (e' := (nI (if qrl σ e = 0 then 1 else 0))) (by rw [if_pos (by omega)]) ?_)
                                      exact mg386
                                  · skip
                                    have h364 : ¬ (i = 0) := fun q => h364 ((z_eq0 (by omega)).mpr q)
                                    have h364 : 0 < i := Nat.pos_of_ne_zero h364
                                    refine lv_aload_n hx hb dL_areEdges_367 rfl (lv_at hl 0 rfl) ?_
                                    refine lv_iload hx hb dL_areEdges_368 (lv_at hl 4 rfl) ?_
                                    refine lv_iconst (v := nI 3) hx hb dL_areEdges_370 (by decide) ?_
                                    refine zwrR (G := G) (w1 := (wL G q σ)) (wc := wX G ad σ T o n f x len) (wc' := wX G ad σ T o n f x len) (va_runV (As := [.int (nI e), .int (nI 3)]) (rest := []) ⟨hx, hb, hml, hown, hts⟩ (kX4_edge_3 l G ad σ T o n f x len e (hO) (by omega) (by omega) (by omega) (zD_any (zD_r hD))) (cwV 2 hts gL_areEdges_X4_edge rfl rfl rfl (by decide +kernel) ⟨Nat.le_of_ble_eq_true rfl, Nat.le_of_ble_eq_true rfl⟩) (zPreV hG (va_recv (q0 := 0) (ci := 4) hG.1 (zP_r hP) rfl rfl) (zP_r hP)) rfl rfl hl.1 rfl (lv_room (Nat.le_of_ble_eq_true rfl)) dL_areEdges_371 ⟨Nat.le_of_ble_eq_true rfl, Nat.le_of_ble_eq_true rfl⟩) hP hD hS (wX_map ..) (fun H locs hP hD hS => ?_)
                                    refine lv_topi (nm_r (e' := (nI (agn σ e))) (agn_i (by omega)) ?_)
                                    refine lv_if_ne (tgt := 381) hx hb dL_areEdges_374 (by decide) (fun h374 => ?_) (fun h374 => ?_)
                                    · skip
                                      have h374 : ¬ ((agn σ e) = 0) := fun q => h374 ((z_eq0 (by omega)).mpr q)
                                      have h374 : 0 < (agn σ e) := Nat.pos_of_ne_zero h374
                                      have hz := hC e (by omega) (by omega); omega
                                    · skip
                                      have h374 : (agn σ e) = 0 := (z_eq0 (by omega)).mp h374
                                      refine lv_iconst (v := nI 1) hx hb dL_areEdges_377 (by decide) ?_
                                      refine lv_goto (tgt := 382) hx hb dL_areEdges_378 (by decide) ?_
                                      refine lv_istore (lv' := [(8, .int (nI 1)), (0, .ref (ad 0 0)), (1, .ref (q 0)), (2, .ref (q 2)), (3, .ref (q 3)), (4, .int (nI e)), (5, .int (nI cl)), (6, .int (nI al)), (7, .int (nI ag)), (9, .int (nI (its σ e))), (10, .int (nI i)), (11, .int (nI cr)), (12, .int (nI p))]) hx hb dL_areEdges_382 hl (by decide) rfl (fun ls hl => ?_)
                                      refine lv_iload hx hb dL_areEdges_384 (lv_at hl 6 rfl) ?_
                                      have mg386 : W pr l en (zRm 7 155) st mi ar bl me cd H locs 0 0 Q (F0 mi 396 ls [.int (nI (if qrl σ e = 0 then 1 else 0)), .int (nI cl)]) := by
                                        refine lv_iadd hx hb dL_areEdges_396 ?_
                                        refine lv_topi (nm_r (e' := nI (cl + (if qrl σ e = 0 then 1 else 0))) (nI_add _ _) ?_)
                                        refine lv_istore (lv' := [(5, .int (nI (cl + (if qrl σ e = 0 then 1 else 0)))), (8, .int (nI 1)), (0, .ref (ad 0 0)), (1, .ref (q 0)), (2, .ref (q 2)), (3, .ref (q 3)), (4, .int (nI e)), (6, .int (nI al)), (7, .int (nI ag)), (9, .int (nI (its σ e))), (10, .int (nI i)), (11, .int (nI cr)), (12, .int (nI p))]) hx hb dL_areEdges_397 hl (by decide) rfl (fun ls hl => ?_)
                                        refine lv_iload hx hb dL_areEdges_399 (lv_at hl 7 rfl) ?_
                                        refine lv_iload hx hb dL_areEdges_401 (lv_at hl 10 rfl) ?_
                                        refine lv_iadd hx hb dL_areEdges_403 ?_
                                        refine lv_topi (nm_r (e' := nI (al + i)) (nI_add _ _) ?_)
                                        refine lv_istore (lv' := [(6, .int (nI (al + i))), (5, .int (nI (cl + (if qrl σ e = 0 then 1 else 0)))), (8, .int (nI 1)), (0, .ref (ad 0 0)), (1, .ref (q 0)), (2, .ref (q 2)), (3, .ref (q 3)), (4, .int (nI e)), (7, .int (nI ag)), (9, .int (nI (its σ e))), (10, .int (nI i)), (11, .int (nI cr)), (12, .int (nI p))]) hx hb dL_areEdges_404 hl (by decide) rfl (fun ls hl => ?_)
                                        refine lv_iload hx hb dL_areEdges_406 (lv_at hl 8 rfl) ?_
                                        refine lv_aload_n hx hb dL_areEdges_408 rfl (lv_at hl 4 rfl) ?_
                                        refine lv_iconst (v := nI 4) hx hb dL_areEdges_409 (by decide) ?_
                                        refine va_iald hx hb hG.1 hP 0 0 rfl rfl (vp_in_nI (n := 4) (N := 5) (by omega) (by omega)) dL_areEdges_410 ?_
                                        refine lv_topi (nm_r (e' := nI (agM σ)) (by rw [nI_clamp (by omega)]; exact if_pos rfl) ?_)
                                        refine lv_iload hx hb dL_areEdges_411 (lv_at hl 7 rfl) ?_
                                        refine lv_ishr hx hb dL_areEdges_413 ?_
                                        refine lv_iconst (v := nI 1) hx hb dL_areEdges_414 (by decide) ?_
                                        refine lv_iand hx hb dL_areEdges_415 ?_
                                        refine lv_topi (nm_r (e' := (nI (agn σ e))) (by rw [b_get _ (agM_lt hO) e (by omega), agM_bt hO (by omega)]) ?_)
                                        refine lv_iadd hx hb dL_areEdges_416 ?_
                                        refine lv_topi (nm_r (e' := nI (ag + (agn σ e))) (nI_add _ _) ?_)
                                        refine lv_istore (lv' := [(7, .int (nI (ag + (agn σ e)))), (6, .int (nI (al + i))), (5, .int (nI (cl + (if qrl σ e = 0 then 1 else 0)))), (8, .int (nI 1)), (0, .ref (ad 0 0)), (1, .ref (q 0)), (2, .ref (q 2)), (3, .ref (q 3)), (4, .int (nI e)), (9, .int (nI (its σ e))), (10, .int (nI i)), (11, .int (nI cr)), (12, .int (nI p))]) hx hb dL_areEdges_417 hl (by decide) rfl (fun ls hl => ?_)
                                        refine lv_iinc (v := nI (e + 1)) (lv' := [(4, .int (nI (e + 1))), (7, .int (nI (ag + (agn σ e)))), (6, .int (nI (al + i))), (5, .int (nI (cl + (if qrl σ e = 0 then 1 else 0)))), (8, .int (nI 1)), (0, .ref (ad 0 0)), (1, .ref (q 0)), (2, .ref (q 2)), (3, .ref (q 3)), (9, .int (nI (its σ e))), (10, .int (nI i)), (11, .int (nI cr)), (12, .int (nI p))]) hx hb dL_areEdges_419 hl (k := 8) rfl (zinc1 _) (by decide) rfl (fun ls hl => ?_)
                                        refine lv_goto (tgt := 15) hx hb dL_areEdges_422 (by decide) ?_
                                        exact ih15 (e + 1) (cl + (if qrl σ e = 0 then 1 else 0)) (al + i) (ag + agn σ e) (by rw [sm, ← hcl]) (by rw [sm, ← hal, hiq]) (by rw [sm, ← hag]; exact congrArg (ag + ·) (agn_n (by omega))) (by omega) (by omega) _ (lv_sub hl [5, 6, 7, 8, 0, 3, 2, 1, 4] rfl) _ _ hP hD hS
                                      refine lv_iload hx hb dL_areEdges_386 (lv_at hl 10 rfl) ?_
                                      refine lv_if_ne (tgt := 395) hx hb dL_areEdges_388 (by decide) (fun h388 => ?_) (fun h388 => ?_)
                                      · skip
                                        have h388 : ¬ (i = 0) := fun q => h388 ((z_eq0 (by omega)).mpr q)
                                        have h388 : 0 < i := Nat.pos_of_ne_zero h388
                                        refine lv_iconst (v := nI 0) hx hb dL_areEdges_395 (by decide) ?_
                                        refine lv_topi (nm_r (e' := (nI (if qrl σ e = 0 then 1 else 0))) (by rw [if_neg (by omega)]) ?_)
                                        exact mg386
                                      · skip
                                        have h388 : i = 0 := (z_eq0 (by omega)).mp h388
                                        refine lv_iconst (v := nI 1) hx hb dL_areEdges_391 (by decide) ?_
                                        refine lv_goto (tgt := 396) hx hb dL_areEdges_392 (by decide) ?_
                                        refine lv_topi (nm_r (e' := (nI (if qrl σ e = 0 then 1 else 0))) (by rw [if_pos (by omega)]) ?_)
                                        exact mg386
                        refine lv_iload hx hb dL_areEdges_305 (lv_at hl 9 rfl) ?_
                        refine lv_bipush (v := nI 10) hx hb dL_areEdges_307 (by decide) ?_
                        refine lv_icmp_ge (tgt := 316) hx hb dL_areEdges_309 (by decide) (fun h309 => ?_) (fun h309 => ?_)
                        · skip
                          have h309 : 10 ≤ (its σ e) := (nI_leI (by omega) (by omega)).mp h309
                          refine lv_iconst (v := nI 2) hx hb dL_areEdges_316 (by decide) ?_
                          refine lv_topi (nm_r (e' := (nI (fD σ e))) (by unfold fD; rw [if_neg (fun z => by have := h10.1.mpr z; omega)]) ?_)
                          exact mg305
                        · skip
                          have h309 : ¬ (10 ≤ (its σ e)) := fun q => h309 ((nI_leI (by omega) (by omega)).mpr q)
                          refine lv_iconst (v := nI 1) hx hb dL_areEdges_312 (by decide) ?_
                          refine lv_goto (tgt := 317) hx hb dL_areEdges_313 (by decide) ?_
                          refine lv_topi (nm_r (e' := (nI (fD σ e))) (by unfold fD; rw [if_pos (h10.1.mp (by omega))]) ?_)
                          exact mg305
              · skip
                have h50 : ¬ (10 ≤ p) := fun q => h50 ((nI_leI (by omega) (by omega)).mpr q)
                have hm1 := mns_10 hO (k := fS σ e) (d := fD σ e) (p := p) (by omega) (by omega) (by omega)
                have hm2 := mns_10 hO (k := sS σ e) (d := sD σ e) (p := p) (by omega) (by omega) (by omega)
                refine lv_aload_n hx hb dL_areEdges_53 rfl (lv_at hl 2 rfl) ?_
                refine lv_aload_n hx hb dL_areEdges_54 rfl (lv_at hl 3 rfl) ?_
                refine lv_iload hx hb dL_areEdges_55 (lv_at hl 9 rfl) ?_
                refine lv_bipush (v := nI 10) hx hb dL_areEdges_57 (by decide) ?_
                refine lv_irem hx hb dL_areEdges_59 (nI_ne0 (by omega) (by omega)) ?_
                refine lv_topi (nm_r (e' := nI ((its σ e) % 10)) (pk_rem (by omega) (by omega) (by omega)) ?_)
                refine lv_topi (nm_r (e' := (nI (fS σ e))) (congrArg nI h10.2.1) ?_)
                have mg60 : W pr l en (zRm 7 155) st mi ar bl me cd H locs 0 0 Q (F0 mi 72 ls [.int (nI (fD σ e)), .int (nI (fS σ e)), .ref (q 3), .ref (q 2)]) := by
                  refine lv_iload hx hb dL_areEdges_72 (lv_at hl 12 rfl) ?_
                  refine zrdS (As := [.ref (q 2), .ref (q 3), .int (nI (fS σ e)), .int (nI (fD σ e)), .int (nI p)]) ⟨hx, hb, hml, hown, hts⟩ (kL_means l G q σ (fS σ e) (fD σ e) p (hO) (by omega) (by omega) (by omega)) (va_cwS 5 hts gL_areEdges_L_means rfl rfl rfl (by decide +kernel) ⟨Nat.le_of_ble_eq_true rfl, Nat.le_of_ble_eq_true rfl⟩) hG (zP_l hP) rfl rfl hl.1 dL_areEdges_74 (Nat.le_of_ble_eq_true rfl) ⟨Nat.le_of_ble_eq_true rfl, Nat.le_of_ble_eq_true rfl⟩ ?_
                  have hf74_0 := hO.mn (show (fS σ e) < 36 by omega) (show (fD σ e) < 4 by omega) (show p < 10 by omega)
                  refine lv_istore (lv' := [(13, .int (nI (mns σ (fS σ e) (fD σ e) p))), (0, .ref (ad 0 0)), (1, .ref (q 0)), (2, .ref (q 2)), (3, .ref (q 3)), (4, .int (nI e)), (5, .int (nI cl)), (6, .int (nI al)), (7, .int (nI ag)), (8, .int (nI 1)), (9, .int (nI (its σ e))), (10, .int (nI i)), (11, .int (nI cr)), (12, .int (nI p))]) hx hb dL_areEdges_77 hl (by decide) rfl (fun ls hl => ?_)
                  refine lv_aload_n hx hb dL_areEdges_79 rfl (lv_at hl 3 rfl) ?_
                  refine lv_aload_n hx hb dL_areEdges_80 rfl (lv_at hl 4 rfl) ?_
                  refine lv_aload_n hx hb dL_areEdges_81 rfl (lv_at hl 2 rfl) ?_
                  refine lv_iload hx hb dL_areEdges_82 (lv_at hl 10 rfl) ?_
                  refine zrdS (As := [.ref (q 0), .int (nI (its σ e))]) ⟨hx, hb, hml, hown, hts⟩ (kL_other l G q σ e (hO) (hM) (by omega)) (va_cwS 2 hts gL_areEdges_L_other rfl rfl rfl (by decide +kernel) ⟨Nat.le_of_ble_eq_true rfl, Nat.le_of_ble_eq_true rfl⟩) hG (zP_l hP) rfl rfl hl.1 dL_areEdges_84 (Nat.le_of_ble_eq_true rfl) ⟨Nat.le_of_ble_eq_true rfl, Nat.le_of_ble_eq_true rfl⟩ ?_
                  have mg87 : W pr l en (zRm 7 155) st mi ar bl me cd H locs 0 0 Q (F0 mi 99 ls [.int (nI (sD σ e)), .int (nI (sS σ e)), .ref (q 3), .ref (q 2)]) := by
                    refine lv_iload hx hb dL_areEdges_99 (lv_at hl 13 rfl) ?_
                    refine zrdS (As := [.ref (q 2), .ref (q 3), .int (nI (sS σ e)), .int (nI (sD σ e)), .int (nI p)]) ⟨hx, hb, hml, hown, hts⟩ (kL_means l G q σ (sS σ e) (sD σ e) p (hO) (by omega) (by omega) (by omega)) (va_cwS 5 hts gL_areEdges_L_means rfl rfl rfl (by decide +kernel) ⟨Nat.le_of_ble_eq_true rfl, Nat.le_of_ble_eq_true rfl⟩) hG (zP_l hP) rfl rfl hl.1 dL_areEdges_101 (Nat.le_of_ble_eq_true rfl) ⟨Nat.le_of_ble_eq_true rfl, Nat.le_of_ble_eq_true rfl⟩ ?_
                    have hf101_0 := hO.mn (show (sS σ e) < 36 by omega) (show (sD σ e) < 4 by omega) (show p < 10 by omega)
                    refine lv_istore (lv' := [(14, .int (nI (mns σ (sS σ e) (sD σ e) p))), (13, .int (nI (mns σ (fS σ e) (fD σ e) p))), (0, .ref (ad 0 0)), (1, .ref (q 0)), (2, .ref (q 2)), (3, .ref (q 3)), (4, .int (nI e)), (5, .int (nI cl)), (6, .int (nI al)), (7, .int (nI ag)), (8, .int (nI 1)), (9, .int (nI (its σ e))), (10, .int (nI i)), (11, .int (nI cr)), (12, .int (nI p))]) hx hb dL_areEdges_104 hl (by decide) rfl (fun ls hl => ?_)
                    refine lv_aload_n hx hb dL_areEdges_106 rfl (lv_at hl 3 rfl) ?_
                    refine lv_aload_n hx hb dL_areEdges_107 rfl (lv_at hl 4 rfl) ?_
                    refine lv_aload_n hx hb dL_areEdges_108 rfl (lv_at hl 5 rfl) ?_
                    refine lv_iload hx hb dL_areEdges_109 (lv_at hl 11 rfl) ?_
                    refine lv_iload hx hb dL_areEdges_111 (lv_at hl 14 rfl) ?_
                    refine zrdS (As := [.ref (q 0), .ref (q 2), .ref (q 3), .int (nI (its σ e)), .int (nI p)]) ⟨hx, hb, hml, hown, hts⟩ (kL_reason l G q σ e p (hO) (hM) (by omega) (by omega)) (va_cwS 5 hts gL_areEdges_L_reason rfl rfl rfl (by decide +kernel) ⟨Nat.le_of_ble_eq_true rfl, Nat.le_of_ble_eq_true rfl⟩) hG (zP_l hP) rfl rfl hl.1 dL_areEdges_113 (Nat.le_of_ble_eq_true rfl) ⟨Nat.le_of_ble_eq_true rfl, Nat.le_of_ble_eq_true rfl⟩ ?_
                    have hf113_0 := rsn_le σ (e) (p)
                    refine lv_istore (lv' := [(15, .int (nI (rsn σ e p))), (14, .int (nI (mns σ (sS σ e) (sD σ e) p))), (13, .int (nI (mns σ (fS σ e) (fD σ e) p))), (0, .ref (ad 0 0)), (1, .ref (q 0)), (2, .ref (q 2)), (3, .ref (q 3)), (4, .int (nI e)), (5, .int (nI cl)), (6, .int (nI al)), (7, .int (nI ag)), (8, .int (nI 1)), (9, .int (nI (its σ e))), (10, .int (nI i)), (11, .int (nI cr)), (12, .int (nI p))]) hx hb dL_areEdges_116 hl (by decide) rfl (fun ls hl => ?_)
                    refine lv_iload hx hb dL_areEdges_118 (lv_at hl 14 rfl) ?_
                    have mg120 : W pr l en (zRm 7 155) st mi ar bl me cd H locs 0 0 Q (F0 mi 139 ls [.int (nI (if sgn σ (fS σ e) (fD σ e) p = 10 ∨ sgn σ (sS σ e) (sD σ e) p = 10 then 0 else 1)), .int (nI cr)]) := by
                      refine lv_iadd hx hb dL_areEdges_139 ?_
                      refine lv_topi (nm_r (e' := nI (cr + (if sgn σ (fS σ e) (fD σ e) p = 10 ∨ sgn σ (sS σ e) (sD σ e) p = 10 then 0 else 1))) (nI_add _ _) ?_)
                      refine lv_istore (lv' := [(11, .int (nI (cr + (if sgn σ (fS σ e) (fD σ e) p = 10 ∨ sgn σ (sS σ e) (sD σ e) p = 10 then 0 else 1)))), (15, .int (nI (rsn σ e p))), (14, .int (nI (mns σ (sS σ e) (sD σ e) p))), (13, .int (nI (mns σ (fS σ e) (fD σ e) p))), (0, .ref (ad 0 0)), (1, .ref (q 0)), (2, .ref (q 2)), (3, .ref (q 3)), (4, .int (nI e)), (5, .int (nI cl)), (6, .int (nI al)), (7, .int (nI ag)), (8, .int (nI 1)), (9, .int (nI (its σ e))), (10, .int (nI i)), (12, .int (nI p))]) hx hb dL_areEdges_140 hl (by decide) rfl (fun ls hl => ?_)
                      refine lv_iload hx hb dL_areEdges_142 (lv_at hl 1 rfl) ?_
                      refine lv_if_le (tgt := 242) hx hb dL_areEdges_144 (by decide) (fun h144 => ?_) (fun h144 => ?_)
                      · skip
                        have h144 : (rsn σ e p) = 0 := (z_le0 (by omega)).mp h144
                        refine lv_iinc (v := nI (p + 1)) (lv' := [(12, .int (nI (p + 1))), (11, .int (nI (cr + (if sgn σ (fS σ e) (fD σ e) p = 10 ∨ sgn σ (sS σ e) (sD σ e) p = 10 then 0 else 1)))), (15, .int (nI (rsn σ e p))), (14, .int (nI (mns σ (sS σ e) (sD σ e) p))), (13, .int (nI (mns σ (fS σ e) (fD σ e) p))), (0, .ref (ad 0 0)), (1, .ref (q 0)), (2, .ref (q 2)), (3, .ref (q 3)), (4, .int (nI e)), (5, .int (nI cl)), (6, .int (nI al)), (7, .int (nI ag)), (8, .int (nI 1)), (9, .int (nI (its σ e))), (10, .int (nI i))]) hx hb dL_areEdges_242 hl (k := 15) rfl (zinc1 _) (by decide) rfl (fun ls hl => ?_)
                        refine lv_goto (tgt := 46) hx hb dL_areEdges_245 (by decide) ?_
                        exact ih46 (p + 1) i (cr + (if sgn σ (fS σ e) (fD σ e) p = 10 ∨ sgn σ (sS σ e) (sD σ e) p = 10 then 0 else 1)) (by rw [qb_s, ← hi1, if_pos h144, Nat.add_zero]) (by rw [sm, ← hcr]) (by omega) (by omega) _ (lv_sub hl [5, 6, 7, 8, 9, 10, 11, 12, 13, 14, 15, 1, 0] rfl) _ _ hP hD hS
                      · skip
                        have h144 : ¬ ((rsn σ e p) = 0) := fun q => h144 ((z_le0 (by omega)).mpr q)
                        have h144 : 0 < (rsn σ e p) := Nat.pos_of_ne_zero h144
                        have hpq : pq σ e i = p := by rw [hi1]; exact pq_at (by omega) h144
                        refine lv_iload hx hb dL_areEdges_147 (lv_at hl 12 rfl) ?_
                        refine lv_if_eq (tgt := 236) hx hb dL_areEdges_149 (by decide) (fun h149 => ?_) (fun h149 => ?_)
                        · skip
                          have h149 : 1 = 0 := (z_eq0 (by omega)).mp h149
                          exfalso; omega
                        · skip
                          have h149 : ¬ (1 = 0) := fun q => h149 ((z_eq0 (by omega)).mpr q)
                          have h149 : 0 < 1 := Nat.pos_of_ne_zero h149
                          refine lv_aload_n hx hb dL_areEdges_152 rfl (lv_at hl 4 rfl) ?_
                          refine lv_iload hx hb dL_areEdges_153 (lv_at hl 8 rfl) ?_
                          refine lv_iload hx hb dL_areEdges_155 (lv_at hl 14 rfl) ?_
                          refine lv_iconst (v := nI 0) hx hb dL_areEdges_157 (by decide) ?_
                          refine zwrR (G := G) (w1 := (wL G q σ)) (wc := wX G ad σ T o n f x len) (wc' := wX G ad σ T o n f x len) (va_runV (As := [.int (nI e), .int (nI i), .int (nI 0)]) (rest := []) ⟨hx, hb, hml, hown, hts⟩ (kX4_quarrel_0 l G ad σ T o n f x len e i (hO) (by omega) (by omega) (by omega) (by omega) (by rw [hpq]; omega) (zD_any (zD_r hD))) (cwV 3 hts gL_areEdges_X4_quarrel rfl rfl rfl (by decide +kernel) ⟨Nat.le_of_ble_eq_true rfl, Nat.le_of_ble_eq_true rfl⟩) (zPreV hG (va_recv (q0 := 0) (ci := 4) hG.1 (zP_r hP) rfl rfl) (zP_r hP)) rfl rfl hl.1 rfl (lv_room (Nat.le_of_ble_eq_true rfl)) dL_areEdges_158 ⟨Nat.le_of_ble_eq_true rfl, Nat.le_of_ble_eq_true rfl⟩) hP hD hS (wX_map ..) (fun H locs hP hD hS => ?_)
                          refine lv_topi (nm_r (e' := (nI p)) (by rw [hpq]) ?_)
                          refine lv_iload hx hb dL_areEdges_161 (lv_at hl 15 rfl) ?_
                          refine lv_icmp_ne (tgt := 236) hx hb dL_areEdges_163 (by decide) (fun h163 => ?_) (fun h163 => ?_)
                          · skip
                            exact absurd rfl h163
                          · skip
                            refine lv_aload_n hx hb dL_areEdges_166 rfl (lv_at hl 4 rfl) ?_
                            refine lv_iload hx hb dL_areEdges_167 (lv_at hl 8 rfl) ?_
                            refine lv_iload hx hb dL_areEdges_169 (lv_at hl 14 rfl) ?_
                            refine lv_iconst (v := nI 1) hx hb dL_areEdges_171 (by decide) ?_
                            refine zwrR (G := G) (w1 := (wL G q σ)) (wc := wX G ad σ T o n f x len) (wc' := wX G ad σ T o n f x len) (va_runV (As := [.int (nI e), .int (nI i), .int (nI 1)]) (rest := []) ⟨hx, hb, hml, hown, hts⟩ (kX4_quarrel_1 l G ad σ T o n f x len e i (hO) (by omega) (by omega) (by omega) (by omega) (by rw [hpq]; omega) (zD_any (zD_r hD))) (cwV 3 hts gL_areEdges_X4_quarrel rfl rfl rfl (by decide +kernel) ⟨Nat.le_of_ble_eq_true rfl, Nat.le_of_ble_eq_true rfl⟩) (zPreV hG (va_recv (q0 := 0) (ci := 4) hG.1 (zP_r hP) rfl rfl) (zP_r hP)) rfl rfl hl.1 rfl (lv_room (Nat.le_of_ble_eq_true rfl)) dL_areEdges_172 ⟨Nat.le_of_ble_eq_true rfl, Nat.le_of_ble_eq_true rfl⟩) hP hD hS (wX_map ..) (fun H locs hP hD hS => ?_)
                            refine lv_topi (nm_r (e' := (nI (rsn σ e p))) (by rw [hpq]) ?_)
                            refine lv_iload hx hb dL_areEdges_175 (lv_at hl 1 rfl) ?_
                            refine lv_icmp_ne (tgt := 236) hx hb dL_areEdges_177 (by decide) (fun h177 => ?_) (fun h177 => ?_)
                            · skip
                              exact absurd rfl h177
                            · skip
                              refine lv_aload_n hx hb dL_areEdges_180 rfl (lv_at hl 4 rfl) ?_
                              refine lv_iload hx hb dL_areEdges_181 (lv_at hl 8 rfl) ?_
                              refine lv_iload hx hb dL_areEdges_183 (lv_at hl 14 rfl) ?_
                              refine lv_iconst (v := nI 2) hx hb dL_areEdges_185 (by decide) ?_
                              refine zwrR (G := G) (w1 := (wL G q σ)) (wc := wX G ad σ T o n f x len) (wc' := wX G ad σ T o n f x len) (va_runV (As := [.int (nI e), .int (nI i), .int (nI 2)]) (rest := []) ⟨hx, hb, hml, hown, hts⟩ (kX4_quarrel_2 l G ad σ T o n f x len e i (hO) (by omega) (by omega) (by omega) (by omega) (by rw [hpq]; omega) (zD_any (zD_r hD))) (cwV 3 hts gL_areEdges_X4_quarrel rfl rfl rfl (by decide +kernel) ⟨Nat.le_of_ble_eq_true rfl, Nat.le_of_ble_eq_true rfl⟩) (zPreV hG (va_recv (q0 := 0) (ci := 4) hG.1 (zP_r hP) rfl rfl) (zP_r hP)) rfl rfl hl.1 rfl (lv_room (Nat.le_of_ble_eq_true rfl)) dL_areEdges_186 ⟨Nat.le_of_ble_eq_true rfl, Nat.le_of_ble_eq_true rfl⟩) hP hD hS (wX_map ..) (fun H locs hP hD hS => ?_)
                              refine lv_topi (nm_r (e' := (zc 10 (mns σ (fS σ e) (fD σ e) p))) (by rw [hpq]) ?_)
                              have mg189 : W pr l en (zRm 7 155) st mi ar bl me cd H locs 0 0 Q (F0 mi 203 ls [.int (zc 10 (mns σ (fS σ e) (fD σ e) p)), .int (zc 10 (mns σ (fS σ e) (fD σ e) p))]) := by
                                refine lv_icmp_ne (tgt := 236) hx hb dL_areEdges_203 (by decide) (fun h203 => ?_) (fun h203 => ?_)
                                · skip
                                  exact absurd rfl h203
                                · skip
                                  refine lv_aload_n hx hb dL_areEdges_206 rfl (lv_at hl 4 rfl) ?_
                                  refine lv_iload hx hb dL_areEdges_207 (lv_at hl 8 rfl) ?_
                                  refine lv_iload hx hb dL_areEdges_209 (lv_at hl 14 rfl) ?_
                                  refine lv_iconst (v := nI 3) hx hb dL_areEdges_211 (by decide) ?_
                                  refine zwrR (G := G) (w1 := (wL G q σ)) (wc := wX G ad σ T o n f x len) (wc' := wX G ad σ T o n f x len) (va_runV (As := [.int (nI e), .int (nI i), .int (nI 3)]) (rest := []) ⟨hx, hb, hml, hown, hts⟩ (kX4_quarrel_3 l G ad σ T o n f x len e i (hO) (by omega) (by omega) (by omega) (by omega) (by rw [hpq]; omega) (zD_any (zD_r hD))) (cwV 3 hts gL_areEdges_X4_quarrel rfl rfl rfl (by decide +kernel) ⟨Nat.le_of_ble_eq_true rfl, Nat.le_of_ble_eq_true rfl⟩) (zPreV hG (va_recv (q0 := 0) (ci := 4) hG.1 (zP_r hP) rfl rfl) (zP_r hP)) rfl rfl hl.1 rfl (lv_room (Nat.le_of_ble_eq_true rfl)) dL_areEdges_212 ⟨Nat.le_of_ble_eq_true rfl, Nat.le_of_ble_eq_true rfl⟩) hP hD hS (wX_map ..) (fun H locs hP hD hS => ?_)
                                  refine lv_topi (nm_r (e' := (zc 10 (mns σ (sS σ e) (sD σ e) p))) (by rw [hpq]) ?_)
                                  have mg215 : W pr l en (zRm 7 155) st mi ar bl me cd H locs 0 0 Q (F0 mi 229 ls [.int (zc 10 (mns σ (sS σ e) (sD σ e) p)), .int (zc 10 (mns σ (sS σ e) (sD σ e) p))]) := by
                                    refine lv_icmp_ne (tgt := 236) hx hb dL_areEdges_229 (by decide) (fun h229 => ?_) (fun h229 => ?_)
                                    · skip
                                      exact absurd rfl h229
                                    · skip
                                      refine lv_iconst (v := nI 1) hx hb dL_areEdges_232 (by decide) ?_
                                      refine lv_goto (tgt := 237) hx hb dL_areEdges_233 (by decide) ?_
                                      refine lv_istore (lv' := [(8, .int (nI 1)), (11, .int (nI (cr + (if sgn σ (fS σ e) (fD σ e) p = 10 ∨ sgn σ (sS σ e) (sD σ e) p = 10 then 0 else 1)))), (15, .int (nI (rsn σ e p))), (14, .int (nI (mns σ (sS σ e) (sD σ e) p))), (13, .int (nI (mns σ (fS σ e) (fD σ e) p))), (0, .ref (ad 0 0)), (1, .ref (q 0)), (2, .ref (q 2)), (3, .ref (q 3)), (4, .int (nI e)), (5, .int (nI cl)), (6, .int (nI al)), (7, .int (nI ag)), (9, .int (nI (its σ e))), (10, .int (nI i)), (12, .int (nI p))]) hx hb dL_areEdges_237 hl (by decide) rfl (fun ls hl => ?_)
                                      refine lv_iinc (v := nI (i + 1)) (lv' := [(10, .int (nI (i + 1))), (8, .int (nI 1)), (11, .int (nI (cr + (if sgn σ (fS σ e) (fD σ e) p = 10 ∨ sgn σ (sS σ e) (sD σ e) p = 10 then 0 else 1)))), (15, .int (nI (rsn σ e p))), (14, .int (nI (mns σ (sS σ e) (sD σ e) p))), (13, .int (nI (mns σ (fS σ e) (fD σ e) p))), (0, .ref (ad 0 0)), (1, .ref (q 0)), (2, .ref (q 2)), (3, .ref (q 3)), (4, .int (nI e)), (5, .int (nI cl)), (6, .int (nI al)), (7, .int (nI ag)), (9, .int (nI (its σ e))), (12, .int (nI p))]) hx hb dL_areEdges_239 hl (k := 14) rfl (zinc1 _) (by decide) rfl (fun ls hl => ?_)
                                      refine lv_iinc (v := nI (p + 1)) (lv' := [(12, .int (nI (p + 1))), (10, .int (nI (i + 1))), (8, .int (nI 1)), (11, .int (nI (cr + (if sgn σ (fS σ e) (fD σ e) p = 10 ∨ sgn σ (sS σ e) (sD σ e) p = 10 then 0 else 1)))), (15, .int (nI (rsn σ e p))), (14, .int (nI (mns σ (sS σ e) (sD σ e) p))), (13, .int (nI (mns σ (fS σ e) (fD σ e) p))), (0, .ref (ad 0 0)), (1, .ref (q 0)), (2, .ref (q 2)), (3, .ref (q 3)), (4, .int (nI e)), (5, .int (nI cl)), (6, .int (nI al)), (7, .int (nI ag)), (9, .int (nI (its σ e)))]) hx hb dL_areEdges_242 hl (k := 15) rfl (zinc1 _) (by decide) rfl (fun ls hl => ?_)
                                      refine lv_goto (tgt := 46) hx hb dL_areEdges_245 (by decide) ?_
                                      exact ih46 (p + 1) (i + 1) (cr + (if sgn σ (fS σ e) (fD σ e) p = 10 ∨ sgn σ (sS σ e) (sD σ e) p = 10 then 0 else 1)) (by rw [qb_s, ← hi1, if_neg (by omega)]) (by rw [sm, ← hcr]) (by omega) (by omega) _ (lv_sub hl [7, 8, 9, 10, 11, 12, 13, 14, 2, 15, 1, 3, 0] rfl) _ _ hP hD hS
                                  refine lv_iload hx hb dL_areEdges_215 (lv_at hl 2 rfl) ?_
                                  refine lv_bipush (v := nI 10) hx hb dL_areEdges_217 (by decide) ?_
                                  refine lv_icmp_ne (tgt := 227) hx hb dL_areEdges_219 (by decide) (fun h219 => ?_) (fun h219 => ?_)
                                  · skip
                                    have h219 : ¬ ((mns σ (sS σ e) (sD σ e) p) = 10) := fun q => h219 ((nI_eq (by omega) (by omega)).mpr q)
                                    refine lv_iload hx hb dL_areEdges_227 (lv_at hl 2 rfl) ?_
                                    refine lv_topi (nm_r (e' := (zc 10 (mns σ (sS σ e) (sD σ e) p))) ((zc_n h219).symm) ?_)
                                    exact mg215
                                  · skip
                                    have h219 : (mns σ (sS σ e) (sD σ e) p) = 10 := (nI_eq (by omega) (by omega)).mp h219
                                    refine lv_bipush (v := (-4)) hx hb dL_areEdges_222 (by decide) ?_
                                    refine lv_goto (tgt := 229) hx hb dL_areEdges_224 (by decide) ?_
                                    refine lv_topi (nm_r (e' := (zc 10 (mns σ (sS σ e) (sD σ e) p))) (by rw [h219, zc_b]) ?_)
                                    exact mg215
                              refine lv_iload hx hb dL_areEdges_189 (lv_at hl 3 rfl) ?_
                              refine lv_bipush (v := nI 10) hx hb dL_areEdges_191 (by decide) ?_
                              refine lv_icmp_ne (tgt := 201) hx hb dL_areEdges_193 (by decide) (fun h193 => ?_) (fun h193 => ?_)
                              · skip
                                have h193 : ¬ ((mns σ (fS σ e) (fD σ e) p) = 10) := fun q => h193 ((nI_eq (by omega) (by omega)).mpr q)
                                refine lv_iload hx hb dL_areEdges_201 (lv_at hl 3 rfl) ?_
                                refine lv_topi (nm_r (e' := (zc 10 (mns σ (fS σ e) (fD σ e) p))) ((zc_n h193).symm) ?_)
                                exact mg189
                              · skip
                                have h193 : (mns σ (fS σ e) (fD σ e) p) = 10 := (nI_eq (by omega) (by omega)).mp h193
                                refine lv_bipush (v := (-4)) hx hb dL_areEdges_196 (by decide) ?_
                                refine lv_goto (tgt := 203) hx hb dL_areEdges_198 (by decide) ?_
                                refine lv_topi (nm_r (e' := (zc 10 (mns σ (fS σ e) (fD σ e) p))) (by rw [h193, zc_b]) ?_)
                                exact mg189
                    refine lv_iload hx hb dL_areEdges_120 (lv_at hl 2 rfl) ?_
                    refine lv_bipush (v := nI 10) hx hb dL_areEdges_122 (by decide) ?_
                    refine lv_icmp_ge (tgt := 138) hx hb dL_areEdges_124 (by decide) (fun h124 => ?_) (fun h124 => ?_)
                    · skip
                      have h124 : 10 ≤ (mns σ (fS σ e) (fD σ e) p) := (nI_leI (by omega) (by omega)).mp h124
                      refine lv_iconst (v := nI 0) hx hb dL_areEdges_138 (by decide) ?_
                      refine lv_topi (nm_r (e' := (nI (if sgn σ (fS σ e) (fD σ e) p = 10 ∨ sgn σ (sS σ e) (sD σ e) p = 10 then 0 else 1))) (by rw [if_pos (Or.inl (hm1.mp (by omega)))]) ?_)
                      exact mg120
                    · skip
                      have h124 : ¬ (10 ≤ (mns σ (fS σ e) (fD σ e) p)) := fun q => h124 ((nI_leI (by omega) (by omega)).mpr q)
                      refine lv_iload hx hb dL_areEdges_127 (lv_at hl 1 rfl) ?_
                      refine lv_bipush (v := nI 10) hx hb dL_areEdges_129 (by decide) ?_
                      refine lv_icmp_ge (tgt := 138) hx hb dL_areEdges_131 (by decide) (fun h131 => ?_) (fun h131 => ?_)
                      · skip
                        have h131 : 10 ≤ (mns σ (sS σ e) (sD σ e) p) := (nI_leI (by omega) (by omega)).mp h131
                        refine lv_iconst (v := nI 0) hx hb dL_areEdges_138 (by decide) ?_
                        refine lv_topi (nm_r (e' := (nI (if sgn σ (fS σ e) (fD σ e) p = 10 ∨ sgn σ (sS σ e) (sD σ e) p = 10 then 0 else 1))) (by rw [if_pos (Or.inr (hm2.mp (by omega)))]) ?_)
                        exact mg120
                      · skip
                        have h131 : ¬ (10 ≤ (mns σ (sS σ e) (sD σ e) p)) := fun q => h131 ((nI_leI (by omega) (by omega)).mpr q)
                        refine lv_iconst (v := nI 1) hx hb dL_areEdges_134 (by decide) ?_
                        refine lv_goto (tgt := 139) hx hb dL_areEdges_135 (by decide) ?_
                        refine lv_topi (nm_r (e' := (nI (if sgn σ (fS σ e) (fD σ e) p = 10 ∨ sgn σ (sS σ e) (sD σ e) p = 10 then 0 else 1))) (by rw [if_neg (fun z => by rcases z with z | z; (have := hm1.mpr z; omega); (have := hm2.mpr z; omega))]) ?_)
                        exact mg120
                  refine lv_iload hx hb dL_areEdges_87 (lv_at hl 10 rfl) ?_
                  refine lv_bipush (v := nI 10) hx hb dL_areEdges_89 (by decide) ?_
                  refine lv_icmp_ge (tgt := 98) hx hb dL_areEdges_91 (by decide) (fun h91 => ?_) (fun h91 => ?_)
                  · skip
                    have h91 : 10 ≤ (its σ e) := (nI_leI (by omega) (by omega)).mp h91
                    refine lv_iconst (v := nI 0) hx hb dL_areEdges_98 (by decide) ?_
                    refine lv_topi (nm_r (e' := (nI (sD σ e))) (by unfold sD; rw [if_neg (fun z => by have := h10.1.mpr z; omega)]) ?_)
                    exact mg87
                  · skip
                    have h91 : ¬ (10 ≤ (its σ e)) := fun q => h91 ((nI_leI (by omega) (by omega)).mpr q)
                    refine lv_iconst (v := nI 3) hx hb dL_areEdges_94 (by decide) ?_
                    refine lv_goto (tgt := 99) hx hb dL_areEdges_95 (by decide) ?_
                    refine lv_topi (nm_r (e' := (nI (sD σ e))) (by unfold sD; rw [if_pos (h10.1.mp (by omega))]) ?_)
                    exact mg87
                refine lv_iload hx hb dL_areEdges_60 (lv_at hl 9 rfl) ?_
                refine lv_bipush (v := nI 10) hx hb dL_areEdges_62 (by decide) ?_
                refine lv_icmp_ge (tgt := 71) hx hb dL_areEdges_64 (by decide) (fun h64 => ?_) (fun h64 => ?_)
                · skip
                  have h64 : 10 ≤ (its σ e) := (nI_leI (by omega) (by omega)).mp h64
                  refine lv_iconst (v := nI 2) hx hb dL_areEdges_71 (by decide) ?_
                  refine lv_topi (nm_r (e' := (nI (fD σ e))) (by unfold fD; rw [if_neg (fun z => by have := h10.1.mpr z; omega)]) ?_)
                  exact mg60
                · skip
                  have h64 : ¬ (10 ≤ (its σ e)) := fun q => h64 ((nI_leI (by omega) (by omega)).mpr q)
                  refine lv_iconst (v := nI 1) hx hb dL_areEdges_67 (by decide) ?_
                  refine lv_goto (tgt := 72) hx hb dL_areEdges_68 (by decide) ?_
                  refine lv_topi (nm_r (e' := (nI (fD σ e))) (by unfold fD; rw [if_pos (h10.1.mp (by omega))]) ?_)
                  exact mg60
          exact loop46 11 0 0 0 (rfl) (rfl) (by omega) (by omega) _ (lv_sub hl [4, 5, 6, 7, 8, 9, 10, 11, 12, 3, 2, 1, 0] rfl) _ _ hP hD hS
  exact loop15 (nE σ + 1) 0 0 0 0 (rfl) (rfl) (rfl) (by omega) (by omega) _ (lv_sub hl [5, 6, 7, 8, 4, 3, 2, 1, 0] rfl) _ _ hP hD hS
theorem wLX_map (G : zG) (q : Nat → Nat) (ad : Nat → Nat → Nat) (τ τ' : Nat → Nat) (σ σ' : Nat → Nat) (T T' : Nat → Nat → Nat) (o n o' n' : Nat) (f f' : Nat → Int32) (x x' : Nat → Nat) (len len' : Nat) : (wL G q τ' ++ wX G ad σ' T' o' n' f' x' len').map (·.1) = (wL G q τ ++ wX G ad σ T o n f x len).map (·.1) := by
  rw [List.map_append, List.map_append, wX_map G ad σ σ' T T' o n o' n' f f' x x' len len']
  rfl
set_option maxHeartbeats 8000000 in
set_option maxRecDepth 100000 in
theorem kL_isSo (l : Launch) (G : zG) (q : Nat → Nat) (ad : Nat → Nat → Nat) (σ : Nat → Nat) (T : Nat → Nat → Nat) (o n : Nat) (f : Nat → Int32) (x : Nat → Nat) (len : Nat) {N : Nat} (hO : Ok N σ) (hM : Sml σ) (hC : Cln σ) (ho : o < 5) (hn : n ≤ 4) (hd : va_D (fun _ => True) ((wL G q σ) ++ wX G ad σ T o n f x len)) : Met l yL_isSo wsL_isSo (zRm 8 190) (zPc G [.ref (ad 0 0), .ref (q 0), .ref (q 1), .ref (q 2), .ref (q 3)] (va_P G.1 vwCl ((wL G q σ) ++ wX G ad σ T o n f x len))) (zQ (zA ((wL G q σ) ++ wX G ad σ T o n f x len)) (some (.int (nI 1))) (va_P G.1 vwCl (wL G q σ ++ wX G ad σ T o n (fun k => nI (blk σ (nE σ) k)) x len))) 0 0 (zA ((wL G q σ) ++ wX G ad σ T o n f x len)) := by
  refine zmkWz (v := True) (w := ((wL G q σ) ++ wX G ad σ T o n f x len)) hd (cc := cL_isSo) (maxL := 18) (by decide) rfl (Nat.le_of_ble_eq_true rfl) ?_
  intro pr en st mi ar bl me cd ls Q hx hb hml hown hts hG hP hl hD hS hret
  have hown : st.vm.findClass RL = some mi.cls := hown
  have hl : lv_has ls 18 [(0, .ref (ad 0 0)), (1, .ref (q 0)), (2, .ref (q 1)), (3, .ref (q 2)), (4, .ref (q 3))] := hl
  have hP : va_P G.1 vwCl ((wL G q σ) ++ wX G ad σ T o n f x len) st.heap := hP
  have hD : va_D (zA ((wL G q σ) ++ wX G ad σ T o n f x len)) ((wL G q σ) ++ wX G ad σ T o n f x len) := hD
  have hc := hO.c
  have hs := hO.lS
  have hne := hO.lE
  have hM6 := hM.s
  have hM7 := hM.e
  have hM4 := hM.r
  have hM1 := hM.1
  have hM2 := hM.2
  have hg2 := hO.2.2.1
  have hg3 := hO.2.2.2.1
  have hNN := hO.N
  obtain ⟨H, hH⟩ : ∃ H, H = st.heap := ⟨_, rfl⟩
  obtain ⟨locs, hlo⟩ : ∃ locs : List Loc, locs = [] := ⟨_, rfl⟩
  have hP : va_P G.1 vwCl ((wL G q σ) ++ wX G ad σ T o n f x len) H := by rw [hH]; exact hP
  have hS : va_S (zA ((wL G q σ) ++ wX G ad σ T o n f x len)) st.heap H locs := by rw [hH, hlo]; exact hS
  suffices hgo : W pr l en (zRm 8 190) st mi ar bl me cd H locs 0 0 Q (F0 mi 0 ls []) by rw [hH, hlo] at hgo; exact hgo
  clear hH hlo
  refine lv_aload_n hx hb dL_isSo_0 rfl (lv_at hl 1 rfl) ?_
  refine lv_iconst (v := nI 0) hx hb dL_isSo_1 (by decide) ?_
  refine va_iald hx hb hG.1 hP 0 0 rfl rfl (vp_in_nI (n := 0) (N := 5) (by omega) (by omega)) dL_isSo_2 ?_
  refine lv_topi (nm_r (e' := nI (σ 0)) (by rw [nI_clamp (by omega)]; exact if_neg (by omega)) ?_)
  refine lv_aload_n hx hb dL_isSo_3 rfl (lv_at hl 1 rfl) ?_
  refine lv_iconst (v := nI 1) hx hb dL_isSo_4 (by decide) ?_
  refine va_iald hx hb hG.1 hP 0 0 rfl rfl (vp_in_nI (n := 1) (N := 5) (by omega) (by omega)) dL_isSo_5 ?_
  refine lv_topi (nm_r (e' := nI (σ 1)) (by rw [nI_clamp (by omega)]; exact if_neg (by omega)) ?_)
  refine lv_imul hx hb dL_isSo_6 ?_
  refine lv_topi (nm_r (e' := nI ((σ 0) * (σ 1))) (pk_mul _ _) ?_)
  refine lv_topi (nm_r (e' := (nI (nS σ))) (rfl) ?_)
  refine lv_istore (lv' := [(5, .int (nI (nS σ))), (0, .ref (ad 0 0)), (1, .ref (q 0)), (2, .ref (q 1)), (3, .ref (q 2)), (4, .ref (q 3))]) hx hb dL_isSo_7 hl (by decide) rfl (fun ls hl => ?_)
  refine lv_iconst (v := nI 0) hx hb dL_isSo_9 (by decide) ?_
  refine lv_istore (lv' := [(6, .int (nI 0)), (5, .int (nI (nS σ))), (0, .ref (ad 0 0)), (1, .ref (q 0)), (2, .ref (q 1)), (3, .ref (q 2)), (4, .ref (q 3))]) hx hb dL_isSo_10 hl (by decide) rfl (fun ls hl => ?_)
  refine lv_iconst (v := nI 0) hx hb dL_isSo_12 (by decide) ?_
  refine lv_istore (lv' := [(7, .int (nI 0)), (6, .int (nI 0)), (5, .int (nI (nS σ))), (0, .ref (ad 0 0)), (1, .ref (q 0)), (2, .ref (q 1)), (3, .ref (q 2)), (4, .ref (q 3))]) hx hb dL_isSo_13 hl (by decide) rfl (fun ls hl => ?_)
  refine lv_iconst (v := nI 0) hx hb dL_isSo_15 (by decide) ?_
  refine lv_istore (lv' := [(8, .int (nI 0)), (7, .int (nI 0)), (6, .int (nI 0)), (5, .int (nI (nS σ))), (0, .ref (ad 0 0)), (1, .ref (q 0)), (2, .ref (q 1)), (3, .ref (q 2)), (4, .ref (q 3))]) hx hb dL_isSo_16 hl (by decide) rfl (fun ls hl => ?_)
  refine lv_aload_n hx hb dL_isSo_18 rfl (lv_at hl 4 rfl) ?_
  refine lv_iconst (v := nI 0) hx hb dL_isSo_19 (by decide) ?_
  refine zwrR (G := G) (w1 := (wL G q σ)) (wc := wX G ad σ T o n f x len) (wc' := wX G ad σ T o n f x len) (va_runV (As := [.int (nI 0)]) (rest := []) ⟨hx, hb, hml, hown, hts⟩ (kX4_count_0 l G ad σ T o n f x len (hO) (by omega) (by omega) (zD_any (zD_r hD))) (cwV 1 hts gL_isSo_X4_count rfl rfl rfl (by decide +kernel) ⟨Nat.le_of_ble_eq_true rfl, Nat.le_of_ble_eq_true rfl⟩) (zPreV hG (va_recv (q0 := 0) (ci := 4) hG.1 (zP_r hP) rfl rfl) (zP_r hP)) rfl rfl hl.1 rfl (lv_room (Nat.le_of_ble_eq_true rfl)) dL_isSo_20 ⟨Nat.le_of_ble_eq_true rfl, Nat.le_of_ble_eq_true rfl⟩) hP hD hS (wX_map ..) (fun H locs hP hD hS => ?_)
  refine lv_aload_n hx hb dL_isSo_23 rfl (lv_at hl 5 rfl) ?_
  refine lv_iconst (v := nI 0) hx hb dL_isSo_24 (by decide) ?_
  refine va_iald hx hb hG.1 hP 0 0 rfl rfl (vp_in_nI (n := 0) (N := 5) (by omega) (by omega)) dL_isSo_25 ?_
  refine lv_topi (nm_r (e' := nI (σ 0)) (by rw [nI_clamp (by omega)]; exact if_neg (by omega)) ?_)
  refine lv_icmp_ne (tgt := 78) hx hb dL_isSo_26 (by decide) (fun h26 => ?_) (fun h26 => ?_)
  · skip
    exact absurd rfl h26
  · skip
    refine lv_aload_n hx hb dL_isSo_29 rfl (lv_at hl 4 rfl) ?_
    refine lv_iconst (v := nI 1) hx hb dL_isSo_30 (by decide) ?_
    refine zwrR (G := G) (w1 := (wL G q σ)) (wc := wX G ad σ T o n f x len) (wc' := wX G ad σ T o n f x len) (va_runV (As := [.int (nI 1)]) (rest := []) ⟨hx, hb, hml, hown, hts⟩ (kX4_count_1 l G ad σ T o n f x len (hO) (by omega) (by omega) (zD_any (zD_r hD))) (cwV 1 hts gL_isSo_X4_count rfl rfl rfl (by decide +kernel) ⟨Nat.le_of_ble_eq_true rfl, Nat.le_of_ble_eq_true rfl⟩) (zPreV hG (va_recv (q0 := 0) (ci := 4) hG.1 (zP_r hP) rfl rfl) (zP_r hP)) rfl rfl hl.1 rfl (lv_room (Nat.le_of_ble_eq_true rfl)) dL_isSo_31 ⟨Nat.le_of_ble_eq_true rfl, Nat.le_of_ble_eq_true rfl⟩) hP hD hS (wX_map ..) (fun H locs hP hD hS => ?_)
    refine lv_aload_n hx hb dL_isSo_34 rfl (lv_at hl 5 rfl) ?_
    refine lv_iconst (v := nI 1) hx hb dL_isSo_35 (by decide) ?_
    refine va_iald hx hb hG.1 hP 0 0 rfl rfl (vp_in_nI (n := 1) (N := 5) (by omega) (by omega)) dL_isSo_36 ?_
    refine lv_topi (nm_r (e' := nI (σ 1)) (by rw [nI_clamp (by omega)]; exact if_neg (by omega)) ?_)
    refine lv_icmp_ne (tgt := 78) hx hb dL_isSo_37 (by decide) (fun h37 => ?_) (fun h37 => ?_)
    · skip
      exact absurd rfl h37
    · skip
      refine lv_aload_n hx hb dL_isSo_40 rfl (lv_at hl 4 rfl) ?_
      refine lv_iconst (v := nI 2) hx hb dL_isSo_41 (by decide) ?_
      refine zwrR (G := G) (w1 := (wL G q σ)) (wc := wX G ad σ T o n f x len) (wc' := wX G ad σ T o n f x len) (va_runV (As := [.int (nI 2)]) (rest := []) ⟨hx, hb, hml, hown, hts⟩ (kX4_count_2 l G ad σ T o n f x len (hO) (by omega) (by omega) (zD_any (zD_r hD))) (cwV 1 hts gL_isSo_X4_count rfl rfl rfl (by decide +kernel) ⟨Nat.le_of_ble_eq_true rfl, Nat.le_of_ble_eq_true rfl⟩) (zPreV hG (va_recv (q0 := 0) (ci := 4) hG.1 (zP_r hP) rfl rfl) (zP_r hP)) rfl rfl hl.1 rfl (lv_room (Nat.le_of_ble_eq_true rfl)) dL_isSo_42 ⟨Nat.le_of_ble_eq_true rfl, Nat.le_of_ble_eq_true rfl⟩) hP hD hS (wX_map ..) (fun H locs hP hD hS => ?_)
      refine lv_iload hx hb dL_isSo_45 (lv_at hl 3 rfl) ?_
      refine lv_icmp_ne (tgt := 78) hx hb dL_isSo_47 (by decide) (fun h47 => ?_) (fun h47 => ?_)
      · skip
        exact absurd rfl h47
      · skip
        refine lv_aload_n hx hb dL_isSo_50 rfl (lv_at hl 4 rfl) ?_
        refine lv_bipush (v := nI 13) hx hb dL_isSo_51 (by decide) ?_
        refine zwrR (G := G) (w1 := (wL G q σ)) (wc := wX G ad σ T o n f x len) (wc' := wX G ad σ T o n f x len) (va_runV (As := [.int (nI 13)]) (rest := []) ⟨hx, hb, hml, hown, hts⟩ (kX4_count_13 l G ad σ T o n f x len (hO) (by omega) (by omega) (zD_any (zD_r hD))) (cwV 1 hts gL_isSo_X4_count rfl rfl rfl (by decide +kernel) ⟨Nat.le_of_ble_eq_true rfl, Nat.le_of_ble_eq_true rfl⟩) (zPreV hG (va_recv (q0 := 0) (ci := 4) hG.1 (zP_r hP) rfl rfl) (zP_r hP)) rfl rfl hl.1 rfl (lv_room (Nat.le_of_ble_eq_true rfl)) dL_isSo_53 ⟨Nat.le_of_ble_eq_true rfl, Nat.le_of_ble_eq_true rfl⟩) hP hD hS (wX_map ..) (fun H locs hP hD hS => ?_)
        refine lv_aload_n hx hb dL_isSo_56 rfl (lv_at hl 5 rfl) ?_
        refine lv_iconst (v := nI 2) hx hb dL_isSo_57 (by decide) ?_
        refine va_iald hx hb hG.1 hP 0 0 rfl rfl (vp_in_nI (n := 2) (N := 5) (by omega) (by omega)) dL_isSo_58 ?_
        refine lv_topi (nm_r (e' := nI (σ 2)) (by rw [nI_clamp (by omega)]; exact if_neg (by omega)) ?_)
        refine lv_icmp_ne (tgt := 78) hx hb dL_isSo_59 (by decide) (fun h59 => ?_) (fun h59 => ?_)
        · skip
          exact absurd rfl h59
        · skip
          refine lv_aload_n hx hb dL_isSo_62 rfl (lv_at hl 4 rfl) ?_
          refine lv_bipush (v := nI 14) hx hb dL_isSo_63 (by decide) ?_
          refine zwrR (G := G) (w1 := (wL G q σ)) (wc := wX G ad σ T o n f x len) (wc' := wX G ad σ T o n f x len) (va_runV (As := [.int (nI 14)]) (rest := []) ⟨hx, hb, hml, hown, hts⟩ (kX4_count_14 l G ad σ T o n f x len (hO) (by omega) (by omega) (zD_any (zD_r hD))) (cwV 1 hts gL_isSo_X4_count rfl rfl rfl (by decide +kernel) ⟨Nat.le_of_ble_eq_true rfl, Nat.le_of_ble_eq_true rfl⟩) (zPreV hG (va_recv (q0 := 0) (ci := 4) hG.1 (zP_r hP) rfl rfl) (zP_r hP)) rfl rfl hl.1 rfl (lv_room (Nat.le_of_ble_eq_true rfl)) dL_isSo_65 ⟨Nat.le_of_ble_eq_true rfl, Nat.le_of_ble_eq_true rfl⟩) hP hD hS (wX_map ..) (fun H locs hP hD hS => ?_)
          refine lv_aload_n hx hb dL_isSo_68 rfl (lv_at hl 5 rfl) ?_
          refine lv_iconst (v := nI 3) hx hb dL_isSo_69 (by decide) ?_
          refine va_iald hx hb hG.1 hP 0 0 rfl rfl (vp_in_nI (n := 3) (N := 5) (by omega) (by omega)) dL_isSo_70 ?_
          refine lv_topi (nm_r (e' := nI (σ 3)) (by rw [nI_clamp (by omega)]; exact if_neg (by omega)) ?_)
          refine lv_icmp_ne (tgt := 78) hx hb dL_isSo_71 (by decide) (fun h71 => ?_) (fun h71 => ?_)
          · skip
            exact absurd rfl h71
          · skip
            refine lv_iconst (v := nI 1) hx hb dL_isSo_74 (by decide) ?_
            refine lv_goto (tgt := 79) hx hb dL_isSo_75 (by decide) ?_
            refine lv_istore (lv' := [(9, .int (nI 1)), (8, .int (nI 0)), (7, .int (nI 0)), (6, .int (nI 0)), (5, .int (nI (nS σ))), (0, .ref (ad 0 0)), (1, .ref (q 0)), (2, .ref (q 1)), (3, .ref (q 2)), (4, .ref (q 3))]) hx hb dL_isSo_79 hl (by decide) rfl (fun ls hl => ?_)
            refine lv_iconst (v := nI 0) hx hb dL_isSo_81 (by decide) ?_
            refine lv_istore (lv' := [(10, .int (nI 0)), (9, .int (nI 1)), (8, .int (nI 0)), (7, .int (nI 0)), (6, .int (nI 0)), (5, .int (nI (nS σ))), (0, .ref (ad 0 0)), (1, .ref (q 0)), (2, .ref (q 1)), (3, .ref (q 2)), (4, .ref (q 3))]) hx hb dL_isSo_82 hl (by decide) rfl (fun ls hl => ?_)
            have loop84 : ∀ (m : Nat) (k : Nat) (bk : Nat) (pu : Nat) (fr : Nat) (fX : Nat → Int32) (hbl : bk = sm (fun k => if blk σ (nE σ) k = k then 1 else 0) k) (hpu : pu = sm (fun k => if pbn σ k = 0 then 0 else 1) k) (hfr : fr = sm (fun k => if pbn σ k = rvn σ k + 1 then 1 else 0) k) (hk : k ≤ nS σ) (hm : nS σ < k + m) (ls : Array Slot) (hl : lv_has ls 18 [(0, .ref (ad 0 0)), (1, .ref (q 0)), (2, .ref (q 1)), (3, .ref (q 2)), (4, .ref (q 3)), (5, .int (nI (nS σ))), (6, .int (nI bk)), (7, .int (nI pu)), (8, .int (nI fr)), (9, .int (nI 1)), (10, .int (nI k))]) (H : Heap) (locs : List Loc) (hP : va_P G.1 vwCl ((wL G q σ) ++ wX G ad σ T o n fX x len) H) (hD : va_D (zA ((wL G q σ) ++ wX G ad σ T o n f x len)) ((wL G q σ) ++ wX G ad σ T o n fX x len)) (hS : va_S (zA ((wL G q σ) ++ wX G ad σ T o n f x len)) st.heap H locs), W pr l en (zRm 8 190) st mi ar bl me cd H locs 0 0 Q (F0 mi 84 ls []) := by
              intro m
              induction m with
              | zero => intro k bk pu fr fX hbl hpu hfr hk hm ls hl H locs hP hD hS; exfalso; omega
              | succ m ih84 =>
                intro k bk pu fr fX hbl hpu hfr hk hm ls hl H locs hP hD hS
                refine lv_iload hx hb dL_isSo_84 (lv_at hl 10 rfl) ?_
                refine lv_iload hx hb dL_isSo_86 (lv_at hl 5 rfl) ?_
                refine lv_icmp_ge (tgt := 563) hx hb dL_isSo_88 (by decide) (fun h88 => ?_) (fun h88 => ?_)
                · skip
                  have h88 : (nS σ) ≤ k := (nI_leI (by omega) (by omega)).mp h88
                  have hkk : k = nS σ := by omega
                  have hfn : fnd σ (nE σ) = bk := by rw [hbl, hkk]; exact fnd_eq hO (nE σ) (Nat.le_refl _)
                  have hpS : pbS σ = pu := by rw [hpu, hkk]; rfl
                  have huS : upS σ = fr := by rw [hfr, hkk]; rfl
                  have hb36 : bk ≤ k := by rw [hbl]; exact sm_11 k
                  have hp36 : pu ≤ k := by rw [hpu]; exact sm_01 k
                  have hf36 : fr ≤ k := by rw [hfr]; exact sm_11 k
                  refine lv_iload hx hb dL_isSo_563 (lv_at hl 9 rfl) ?_
                  refine lv_if_eq (tgt := 627) hx hb dL_isSo_565 (by decide) (fun h565 => ?_) (fun h565 => ?_)
                  · skip
                    have h565 : 1 = 0 := (z_eq0 (by omega)).mp h565
                    exfalso; omega
                  · skip
                    have h565 : ¬ (1 = 0) := fun q => h565 ((z_eq0 (by omega)).mpr q)
                    have h565 : 0 < 1 := Nat.pos_of_ne_zero h565
                    refine lv_aload_n hx hb dL_isSo_568 rfl (lv_at hl 0 rfl) ?_
                    refine lv_aload_n hx hb dL_isSo_569 rfl (lv_at hl 1 rfl) ?_
                    refine lv_aload_n hx hb dL_isSo_570 rfl (lv_at hl 3 rfl) ?_
                    refine lv_aload hx hb dL_isSo_571 (lv_at hl 4 rfl) ?_
                    refine zwrW (G := G) (wc := ((wL G q σ) ++ wX G ad σ T o n fX x len)) (wc' := ((wL G q σ) ++ wX G ad σ T o n fX x len)) (va_runS (As := [.ref (ad 0 0), .ref (q 0), .ref (q 2), .ref (q 3)]) (rest := []) ⟨hx, hb, hml, hown, hts⟩ (kL_areEdges l G q ad σ T o n fX x len (hO) (hM) (hC) (by omega) (by omega) (zD_any hD)) (va_cwS 4 hts gL_isSo_L_areEdges rfl rfl rfl (by decide +kernel) ⟨Nat.le_of_ble_eq_true rfl, Nat.le_of_ble_eq_true rfl⟩) (zPre hG (hP)) rfl rfl hl.1 rfl (lv_room (Nat.le_of_ble_eq_true rfl)) dL_isSo_573 ⟨Nat.le_of_ble_eq_true rfl, Nat.le_of_ble_eq_true rfl⟩) hP hD hS (wLX_map ..) (fun H locs hP hD hS => ?_)
                    refine lv_if_eq (tgt := 627) hx hb dL_isSo_576 (by decide) (fun h576 => ?_) (fun h576 => ?_)
                    · skip
                      have h576 : 1 = 0 := (z_eq0 (by omega)).mp h576
                      exfalso; omega
                    · skip
                      have h576 : ¬ (1 = 0) := fun q => h576 ((z_eq0 (by omega)).mpr q)
                      have h576 : 0 < 1 := Nat.pos_of_ne_zero h576
                      refine lv_aload_n hx hb dL_isSo_579 rfl (lv_at hl 0 rfl) ?_
                      refine lv_bipush (v := nI 7) hx hb dL_isSo_580 (by decide) ?_
                      refine zwrR (G := G) (w1 := (wL G q σ)) (wc := wX G ad σ T o n fX x len) (wc' := wX G ad σ T o n (fun k => nI (blk σ (nE σ) k)) x len) (va_runV (As := [.int (nI 7)]) (rest := []) ⟨hx, hb, hml, hown, hts⟩ (kX4_count_7 l G ad σ T o n fX x len (hO) (by omega) (by omega) (zD_any (zD_r hD))) (cwV 1 hts gL_isSo_X4_count rfl rfl rfl (by decide +kernel) ⟨Nat.le_of_ble_eq_true rfl, Nat.le_of_ble_eq_true rfl⟩) (zPreV hG (va_recv (q0 := 0) (ci := 4) hG.1 (zP_r hP) rfl rfl) (zP_r hP)) rfl rfl hl.1 rfl (lv_room (Nat.le_of_ble_eq_true rfl)) dL_isSo_582 ⟨Nat.le_of_ble_eq_true rfl, Nat.le_of_ble_eq_true rfl⟩) hP hD hS (wX_map ..) (fun H locs hP hD hS => ?_)
                      refine lv_iload hx hb dL_isSo_585 (lv_at hl 6 rfl) ?_
                      refine lv_icmp_ne (tgt := 627) hx hb dL_isSo_587 (by decide) (fun h587 => ?_) (fun h587 => ?_)
                      · skip
                        exact absurd (congrArg nI (hfn)) h587
                      · skip
                        refine lv_aload_n hx hb dL_isSo_590 rfl (lv_at hl 0 rfl) ?_
                        refine lv_bipush (v := nI 8) hx hb dL_isSo_591 (by decide) ?_
                        refine zwrR (G := G) (w1 := (wL G q σ)) (wc := wX G ad σ T o n (fun k => nI (blk σ (nE σ) k)) x len) (wc' := wX G ad σ T o n (fun k => nI (blk σ (nE σ) k)) x len) (va_runV (As := [.int (nI 8)]) (rest := []) ⟨hx, hb, hml, hown, hts⟩ (kX4_count_8 l G ad σ T o n (fun k => nI (blk σ (nE σ) k)) x len (hO) (by omega) (by omega) (zD_any (zD_r hD))) (cwV 1 hts gL_isSo_X4_count rfl rfl rfl (by decide +kernel) ⟨Nat.le_of_ble_eq_true rfl, Nat.le_of_ble_eq_true rfl⟩) (zPreV hG (va_recv (q0 := 0) (ci := 4) hG.1 (zP_r hP) rfl rfl) (zP_r hP)) rfl rfl hl.1 rfl (lv_room (Nat.le_of_ble_eq_true rfl)) dL_isSo_593 ⟨Nat.le_of_ble_eq_true rfl, Nat.le_of_ble_eq_true rfl⟩) hP hD hS (wX_map ..) (fun H locs hP hD hS => ?_)
                        refine lv_iload hx hb dL_isSo_596 (lv_at hl 7 rfl) ?_
                        refine lv_icmp_ne (tgt := 627) hx hb dL_isSo_598 (by decide) (fun h598 => ?_) (fun h598 => ?_)
                        · skip
                          exact absurd (congrArg nI (hpS)) h598
                        · skip
                          refine lv_aload_n hx hb dL_isSo_601 rfl (lv_at hl 0 rfl) ?_
                          refine lv_bipush (v := nI 9) hx hb dL_isSo_602 (by decide) ?_
                          refine zwrR (G := G) (w1 := (wL G q σ)) (wc := wX G ad σ T o n (fun k => nI (blk σ (nE σ) k)) x len) (wc' := wX G ad σ T o n (fun k => nI (blk σ (nE σ) k)) x len) (va_runV (As := [.int (nI 9)]) (rest := []) ⟨hx, hb, hml, hown, hts⟩ (kX4_count_9 l G ad σ T o n (fun k => nI (blk σ (nE σ) k)) x len (hO) (by omega) (by omega) (zD_any (zD_r hD))) (cwV 1 hts gL_isSo_X4_count rfl rfl rfl (by decide +kernel) ⟨Nat.le_of_ble_eq_true rfl, Nat.le_of_ble_eq_true rfl⟩) (zPreV hG (va_recv (q0 := 0) (ci := 4) hG.1 (zP_r hP) rfl rfl) (zP_r hP)) rfl rfl hl.1 rfl (lv_room (Nat.le_of_ble_eq_true rfl)) dL_isSo_604 ⟨Nat.le_of_ble_eq_true rfl, Nat.le_of_ble_eq_true rfl⟩) hP hD hS (wX_map ..) (fun H locs hP hD hS => ?_)
                          refine lv_iload hx hb dL_isSo_607 (lv_at hl 8 rfl) ?_
                          refine lv_icmp_ne (tgt := 627) hx hb dL_isSo_609 (by decide) (fun h609 => ?_) (fun h609 => ?_)
                          · skip
                            exact absurd (congrArg nI (huS)) h609
                          · skip
                            refine lv_aload_n hx hb dL_isSo_612 rfl (lv_at hl 0 rfl) ?_
                            refine lv_iload hx hb dL_isSo_613 (lv_at hl 5 rfl) ?_
                            refine lv_iconst (v := nI 0) hx hb dL_isSo_615 (by decide) ?_
                            refine zwrR (G := G) (w1 := (wL G q σ)) (wc := wX G ad σ T o n (fun k => nI (blk σ (nE σ) k)) x len) (wc' := wX G ad σ T o n (fun k => nI (blk σ (nE σ) k)) x len) (va_runV (As := [.int (nI (nS σ)), .int (nI 0)]) (rest := []) ⟨hx, hb, hml, hown, hts⟩ (kX4_sheet_inv l G ad σ T o n (fun k => nI (blk σ (nE σ) k)) x len (nI (nS σ)) (nI 0) (hO) (by omega) (by omega) (fun z => absurd ((nI_ltI (by omega) (by omega)).mp z.2) (by omega)) (zD_any (zD_r hD))) (cwV 2 hts gL_isSo_X4_sheet rfl rfl rfl (by decide +kernel) ⟨Nat.le_of_ble_eq_true rfl, Nat.le_of_ble_eq_true rfl⟩) (zPreV hG (va_recv (q0 := 0) (ci := 4) hG.1 (zP_r hP) rfl rfl) (zP_r hP)) rfl rfl hl.1 rfl (lv_room (Nat.le_of_ble_eq_true rfl)) dL_isSo_616 ⟨Nat.le_of_ble_eq_true rfl, Nat.le_of_ble_eq_true rfl⟩) hP hD hS (wX_map ..) (fun H locs hP hD hS => ?_)
                            refine lv_iconst (v := (-1)) hx hb dL_isSo_619 (by decide) ?_
                            refine lv_icmp_ne (tgt := 627) hx hb dL_isSo_620 (by decide) (fun h620 => ?_) (fun h620 => ?_)
                            · skip
                              exact absurd rfl h620
                            · skip
                              refine lv_iconst (v := nI 1) hx hb dL_isSo_623 (by decide) ?_
                              refine lv_goto (tgt := 628) hx hb dL_isSo_624 (by decide) ?_
                              exact hret _ _ _ _ _ dL_isSo_628 hS (hP) (z_t (trivial))
                · skip
                  have h88 : ¬ ((nS σ) ≤ k) := fun q => h88 ((nI_leI (by omega) (by omega)).mpr q)
                  refine lv_iload hx hb dL_isSo_91 (lv_at hl 9 rfl) ?_
                  refine lv_if_eq (tgt := 563) hx hb dL_isSo_93 (by decide) (fun h93 => ?_) (fun h93 => ?_)
                  · skip
                    have h93 : 1 = 0 := (z_eq0 (by omega)).mp h93
                    exfalso; omega
                  · skip
                    have h93 : ¬ (1 = 0) := fun q => h93 ((z_eq0 (by omega)).mpr q)
                    have h93 : 0 < 1 := Nat.pos_of_ne_zero h93
                    have hpb := hO.pb (show k < 36 by omega)
                    have hrv := hO.rv (show k < 36 by omega)
                    have hsc := hO.sc (show k < 36 by omega)
                    have hkm := Nat.mod_le k (σ 0)
                    have hkd := Nat.div_le_self k (σ 0)
                    have hblk := blk_le σ (nE σ) k
                    have hne4 := nEd_le σ k
                    have hna4 := nAd_le σ k
                    have hsl : sgs σ k ≤ 40 := sm_01 40
                    refine lv_iconst (v := nI 0) hx hb dL_isSo_96 (by decide) ?_
                    refine lv_istore (lv' := [(11, .int (nI 0)), (0, .ref (ad 0 0)), (1, .ref (q 0)), (2, .ref (q 1)), (3, .ref (q 2)), (4, .ref (q 3)), (5, .int (nI (nS σ))), (6, .int (nI bk)), (7, .int (nI pu)), (8, .int (nI fr)), (9, .int (nI 1)), (10, .int (nI k))]) hx hb dL_isSo_97 hl (by decide) rfl (fun ls hl => ?_)
                    refine lv_iconst (v := nI 0) hx hb dL_isSo_99 (by decide) ?_
                    refine lv_istore (lv' := [(12, .int (nI 0)), (11, .int (nI 0)), (0, .ref (ad 0 0)), (1, .ref (q 0)), (2, .ref (q 1)), (3, .ref (q 2)), (4, .ref (q 3)), (5, .int (nI (nS σ))), (6, .int (nI bk)), (7, .int (nI pu)), (8, .int (nI fr)), (9, .int (nI 1)), (10, .int (nI k))]) hx hb dL_isSo_100 hl (by decide) rfl (fun ls hl => ?_)
                    refine lv_iconst (v := nI 0) hx hb dL_isSo_102 (by decide) ?_
                    refine lv_istore (lv' := [(13, .int (nI 0)), (12, .int (nI 0)), (11, .int (nI 0)), (0, .ref (ad 0 0)), (1, .ref (q 0)), (2, .ref (q 1)), (3, .ref (q 2)), (4, .ref (q 3)), (5, .int (nI (nS σ))), (6, .int (nI bk)), (7, .int (nI pu)), (8, .int (nI fr)), (9, .int (nI 1)), (10, .int (nI k))]) hx hb dL_isSo_103 hl (by decide) rfl (fun ls hl => ?_)
                    refine lv_iconst (v := nI 0) hx hb dL_isSo_105 (by decide) ?_
                    refine lv_istore (lv' := [(14, .int (nI 0)), (13, .int (nI 0)), (12, .int (nI 0)), (11, .int (nI 0)), (0, .ref (ad 0 0)), (1, .ref (q 0)), (2, .ref (q 1)), (3, .ref (q 2)), (4, .ref (q 3)), (5, .int (nI (nS σ))), (6, .int (nI bk)), (7, .int (nI pu)), (8, .int (nI fr)), (9, .int (nI 1)), (10, .int (nI k))]) hx hb dL_isSo_106 hl (by decide) rfl (fun ls hl => ?_)
                    have loop108 : ∀ (w : Nat) (d : Nat) (ed : Nat) (ag : Nat) (sg : Nat) (hed : ed = sm (fun d => if eO σ k d = 60 then 0 else 1) d) (hag : ag = sm (fun d => if agF σ (eO σ k d) = 1 then 1 else 0) d) (hsg : sg = sm (fun j => if σ (64 + 53 * k + j) = 10 then 0 else 1) (10 * d)) (hd4 : d ≤ 4) (hw : 4 < d + w) (ls : Array Slot) (hl : lv_has ls 18 [(0, .ref (ad 0 0)), (1, .ref (q 0)), (2, .ref (q 1)), (3, .ref (q 2)), (4, .ref (q 3)), (5, .int (nI (nS σ))), (6, .int (nI bk)), (7, .int (nI pu)), (8, .int (nI fr)), (9, .int (nI 1)), (10, .int (nI k)), (11, .int (nI ed)), (12, .int (nI ag)), (13, .int (nI sg)), (14, .int (nI d))]) (H : Heap) (locs : List Loc) (hP : va_P G.1 vwCl ((wL G q σ) ++ wX G ad σ T o n fX x len) H) (hD : va_D (zA ((wL G q σ) ++ wX G ad σ T o n f x len)) ((wL G q σ) ++ wX G ad σ T o n fX x len)) (hS : va_S (zA ((wL G q σ) ++ wX G ad σ T o n f x len)) st.heap H locs), W pr l en (zRm 8 190) st mi ar bl me cd H locs 0 0 Q (F0 mi 108 ls []) := by
                      intro w
                      induction w with
                      | zero => intro d ed ag sg hed hag hsg hd4 hw ls hl H locs hP hD hS; exfalso; omega
                      | succ w ih108 =>
                        intro d ed ag sg hed hag hsg hd4 hw ls hl H locs hP hD hS
                        refine lv_iload hx hb dL_isSo_108 (lv_at hl 14 rfl) ?_
                        refine lv_iconst (v := nI 4) hx hb dL_isSo_110 (by decide) ?_
                        refine lv_icmp_ge (tgt := 315) hx hb dL_isSo_111 (by decide) (fun h111 => ?_) (fun h111 => ?_)
                        · skip
                          have h111 : 4 ≤ d := (nI_leI (by omega) (by omega)).mp h111
                          have hd44 : d = 4 := by omega
                          have hedq : ed = nEd σ k := by rw [hed, hd44]; rfl
                          have hagq : ag = nAd σ k := by rw [hag, hd44]; rfl
                          have hsgq : sg = sgs σ k := by rw [hsg, hd44]; rfl
                          refine lv_aload_n hx hb dL_isSo_315 rfl (lv_at hl 1 rfl) ?_
                          refine lv_iload hx hb dL_isSo_316 (lv_at hl 10 rfl) ?_
                          refine zrdS (As := [.ref (q 0), .int (nI k)]) ⟨hx, hb, hml, hown, hts⟩ (kL_block l G q σ k (hO) (hM) (by omega)) (va_cwS 2 hts gL_isSo_L_block rfl rfl rfl (by decide +kernel) ⟨Nat.le_of_ble_eq_true rfl, Nat.le_of_ble_eq_true rfl⟩) hG (zP_l hP) rfl rfl hl.1 dL_isSo_318 (Nat.le_of_ble_eq_true rfl) ⟨Nat.le_of_ble_eq_true rfl, Nat.le_of_ble_eq_true rfl⟩ ?_
                          have hf318_0 := blk_le σ (nE σ) (k)
                          refine lv_istore (lv' := [(14, .int (nI (blk σ (nE σ) k))), (0, .ref (ad 0 0)), (1, .ref (q 0)), (2, .ref (q 1)), (3, .ref (q 2)), (4, .ref (q 3)), (5, .int (nI (nS σ))), (6, .int (nI bk)), (7, .int (nI pu)), (8, .int (nI fr)), (9, .int (nI 1)), (10, .int (nI k)), (11, .int (nI ed)), (12, .int (nI ag)), (13, .int (nI sg))]) hx hb dL_isSo_321 hl (by decide) rfl (fun ls hl => ?_)
                          refine lv_iload hx hb dL_isSo_323 (lv_at hl 7 rfl) ?_
                          have mg325 : W pr l en (zRm 8 190) st mi ar bl me cd H locs 0 0 Q (F0 mi 337 ls [.int (nI (if blk σ (nE σ) k = k then 1 else 0)), .int (nI bk)]) := by
                            refine lv_iadd hx hb dL_isSo_337 ?_
                            refine lv_topi (nm_r (e' := nI (bk + (if blk σ (nE σ) k = k then 1 else 0))) (nI_add _ _) ?_)
                            refine lv_istore (lv' := [(6, .int (nI (bk + (if blk σ (nE σ) k = k then 1 else 0)))), (14, .int (nI (blk σ (nE σ) k))), (0, .ref (ad 0 0)), (1, .ref (q 0)), (2, .ref (q 1)), (3, .ref (q 2)), (4, .ref (q 3)), (5, .int (nI (nS σ))), (7, .int (nI pu)), (8, .int (nI fr)), (9, .int (nI 1)), (10, .int (nI k)), (11, .int (nI ed)), (12, .int (nI ag)), (13, .int (nI sg))]) hx hb dL_isSo_338 hl (by decide) rfl (fun ls hl => ?_)
                            refine lv_iload hx hb dL_isSo_340 (lv_at hl 8 rfl) ?_
                            have mg342 : W pr l en (zRm 8 190) st mi ar bl me cd H locs 0 0 Q (F0 mi 357 ls [.int (nI (if pbn σ k = 0 then 0 else 1)), .int (nI pu)]) := by
                              refine lv_iadd hx hb dL_isSo_357 ?_
                              refine lv_topi (nm_r (e' := nI (pu + (if pbn σ k = 0 then 0 else 1))) (nI_add _ _) ?_)
                              refine lv_istore (lv' := [(7, .int (nI (pu + (if pbn σ k = 0 then 0 else 1)))), (6, .int (nI (bk + (if blk σ (nE σ) k = k then 1 else 0)))), (14, .int (nI (blk σ (nE σ) k))), (0, .ref (ad 0 0)), (1, .ref (q 0)), (2, .ref (q 1)), (3, .ref (q 2)), (4, .ref (q 3)), (5, .int (nI (nS σ))), (8, .int (nI fr)), (9, .int (nI 1)), (10, .int (nI k)), (11, .int (nI ed)), (12, .int (nI ag)), (13, .int (nI sg))]) hx hb dL_isSo_358 hl (by decide) rfl (fun ls hl => ?_)
                              refine lv_iload hx hb dL_isSo_360 (lv_at hl 9 rfl) ?_
                              have mg362 : W pr l en (zRm 8 190) st mi ar bl me cd H locs 0 0 Q (F0 mi 381 ls [.int (nI (if pbn σ k = rvn σ k + 1 then 1 else 0)), .int (nI fr)]) := by
                                refine lv_iadd hx hb dL_isSo_381 ?_
                                refine lv_topi (nm_r (e' := nI (fr + (if pbn σ k = rvn σ k + 1 then 1 else 0))) (nI_add _ _) ?_)
                                refine lv_istore (lv' := [(8, .int (nI (fr + (if pbn σ k = rvn σ k + 1 then 1 else 0)))), (7, .int (nI (pu + (if pbn σ k = 0 then 0 else 1)))), (6, .int (nI (bk + (if blk σ (nE σ) k = k then 1 else 0)))), (14, .int (nI (blk σ (nE σ) k))), (0, .ref (ad 0 0)), (1, .ref (q 0)), (2, .ref (q 1)), (3, .ref (q 2)), (4, .ref (q 3)), (5, .int (nI (nS σ))), (9, .int (nI 1)), (10, .int (nI k)), (11, .int (nI ed)), (12, .int (nI ag)), (13, .int (nI sg))]) hx hb dL_isSo_382 hl (by decide) rfl (fun ls hl => ?_)
                                refine lv_iload hx hb dL_isSo_384 (lv_at hl 10 rfl) ?_
                                refine lv_if_eq (tgt := 554) hx hb dL_isSo_386 (by decide) (fun h386 => ?_) (fun h386 => ?_)
                                · skip
                                  have h386 : 1 = 0 := (z_eq0 (by omega)).mp h386
                                  exfalso; omega
                                · skip
                                  have h386 : ¬ (1 = 0) := fun q => h386 ((z_eq0 (by omega)).mpr q)
                                  have h386 : 0 < 1 := Nat.pos_of_ne_zero h386
                                  refine lv_aload_n hx hb dL_isSo_389 rfl (lv_at hl 4 rfl) ?_
                                  refine lv_iload hx hb dL_isSo_390 (lv_at hl 11 rfl) ?_
                                  refine lv_iconst (v := nI 0) hx hb dL_isSo_392 (by decide) ?_
                                  refine zwrR (G := G) (w1 := (wL G q σ)) (wc := wX G ad σ T o n fX x len) (wc' := wX G ad σ T o n fX x len) (va_runV (As := [.int (nI k), .int (nI 0)]) (rest := []) ⟨hx, hb, hml, hown, hts⟩ (kX4_sheet_0 l G ad σ T o n fX x len k (hO) (by omega) (by omega) (by omega) (zD_any (zD_r hD))) (cwV 2 hts gL_isSo_X4_sheet rfl rfl rfl (by decide +kernel) ⟨Nat.le_of_ble_eq_true rfl, Nat.le_of_ble_eq_true rfl⟩) (zPreV hG (va_recv (q0 := 0) (ci := 4) hG.1 (zP_r hP) rfl rfl) (zP_r hP)) rfl rfl hl.1 rfl (lv_room (Nat.le_of_ble_eq_true rfl)) dL_isSo_393 ⟨Nat.le_of_ble_eq_true rfl, Nat.le_of_ble_eq_true rfl⟩) hP hD hS (wX_map ..) (fun H locs hP hD hS => ?_)
                                  refine lv_iload hx hb dL_isSo_396 (lv_at hl 11 rfl) ?_
                                  refine lv_aload_n hx hb dL_isSo_398 rfl (lv_at hl 5 rfl) ?_
                                  refine lv_iconst (v := nI 0) hx hb dL_isSo_399 (by decide) ?_
                                  refine va_iald hx hb hG.1 hP 0 0 rfl rfl (vp_in_nI (n := 0) (N := 5) (by omega) (by omega)) dL_isSo_400 ?_
                                  refine lv_topi (nm_r (e' := nI (σ 0)) (by rw [nI_clamp (by omega)]; exact if_neg (by omega)) ?_)
                                  refine lv_irem hx hb dL_isSo_401 (nI_ne0 (by omega) (by omega)) ?_
                                  refine lv_topi (nm_r (e' := nI (k % (σ 0))) (pk_rem (by omega) (by omega) (by omega)) ?_)
                                  refine lv_icmp_ne (tgt := 554) hx hb dL_isSo_402 (by decide) (fun h402 => ?_) (fun h402 => ?_)
                                  · skip
                                    exact absurd rfl h402
                                  · skip
                                    refine lv_aload_n hx hb dL_isSo_405 rfl (lv_at hl 4 rfl) ?_
                                    refine lv_iload hx hb dL_isSo_406 (lv_at hl 11 rfl) ?_
                                    refine lv_iconst (v := nI 1) hx hb dL_isSo_408 (by decide) ?_
                                    refine zwrR (G := G) (w1 := (wL G q σ)) (wc := wX G ad σ T o n fX x len) (wc' := wX G ad σ T o n fX x len) (va_runV (As := [.int (nI k), .int (nI 1)]) (rest := []) ⟨hx, hb, hml, hown, hts⟩ (kX4_sheet_1 l G ad σ T o n fX x len k (hO) (by omega) (by omega) (by omega) (zD_any (zD_r hD))) (cwV 2 hts gL_isSo_X4_sheet rfl rfl rfl (by decide +kernel) ⟨Nat.le_of_ble_eq_true rfl, Nat.le_of_ble_eq_true rfl⟩) (zPreV hG (va_recv (q0 := 0) (ci := 4) hG.1 (zP_r hP) rfl rfl) (zP_r hP)) rfl rfl hl.1 rfl (lv_room (Nat.le_of_ble_eq_true rfl)) dL_isSo_409 ⟨Nat.le_of_ble_eq_true rfl, Nat.le_of_ble_eq_true rfl⟩) hP hD hS (wX_map ..) (fun H locs hP hD hS => ?_)
                                    refine lv_iload hx hb dL_isSo_412 (lv_at hl 11 rfl) ?_
                                    refine lv_aload_n hx hb dL_isSo_414 rfl (lv_at hl 5 rfl) ?_
                                    refine lv_iconst (v := nI 0) hx hb dL_isSo_415 (by decide) ?_
                                    refine va_iald hx hb hG.1 hP 0 0 rfl rfl (vp_in_nI (n := 0) (N := 5) (by omega) (by omega)) dL_isSo_416 ?_
                                    refine lv_topi (nm_r (e' := nI (σ 0)) (by rw [nI_clamp (by omega)]; exact if_neg (by omega)) ?_)
                                    refine lv_idiv hx hb dL_isSo_417 (nI_ne0 (by omega) (by omega)) ?_
                                    refine lv_topi (nm_r (e' := nI (k / (σ 0))) (pk_div (by omega) (by omega) (by omega)) ?_)
                                    refine lv_icmp_ne (tgt := 554) hx hb dL_isSo_418 (by decide) (fun h418 => ?_) (fun h418 => ?_)
                                    · skip
                                      exact absurd rfl h418
                                    · skip
                                      refine lv_aload_n hx hb dL_isSo_421 rfl (lv_at hl 4 rfl) ?_
                                      refine lv_iload hx hb dL_isSo_422 (lv_at hl 11 rfl) ?_
                                      refine lv_iconst (v := nI 2) hx hb dL_isSo_424 (by decide) ?_
                                      refine zwrR (G := G) (w1 := (wL G q σ)) (wc := wX G ad σ T o n fX x len) (wc' := wX G ad σ T o n fX x len) (va_runV (As := [.int (nI k), .int (nI 2)]) (rest := []) ⟨hx, hb, hml, hown, hts⟩ (kX4_sheet_2 l G ad σ T o n fX x len k (hO) (by omega) (by omega) (by omega) (zD_any (zD_r hD))) (cwV 2 hts gL_isSo_X4_sheet rfl rfl rfl (by decide +kernel) ⟨Nat.le_of_ble_eq_true rfl, Nat.le_of_ble_eq_true rfl⟩) (zPreV hG (va_recv (q0 := 0) (ci := 4) hG.1 (zP_r hP) rfl rfl) (zP_r hP)) rfl rfl hl.1 rfl (lv_room (Nat.le_of_ble_eq_true rfl)) dL_isSo_425 ⟨Nat.le_of_ble_eq_true rfl, Nat.le_of_ble_eq_true rfl⟩) hP hD hS (wX_map ..) (fun H locs hP hD hS => ?_)
                                      refine lv_iload hx hb dL_isSo_428 (lv_at hl 12 rfl) ?_
                                      refine lv_icmp_ne (tgt := 554) hx hb dL_isSo_430 (by decide) (fun h430 => ?_) (fun h430 => ?_)
                                      · skip
                                        exact absurd (congrArg nI (hedq.symm)) h430
                                      · skip
                                        refine lv_aload_n hx hb dL_isSo_433 rfl (lv_at hl 4 rfl) ?_
                                        refine lv_iload hx hb dL_isSo_434 (lv_at hl 11 rfl) ?_
                                        refine lv_iconst (v := nI 3) hx hb dL_isSo_436 (by decide) ?_
                                        refine zwrR (G := G) (w1 := (wL G q σ)) (wc := wX G ad σ T o n fX x len) (wc' := wX G ad σ T o n fX x len) (va_runV (As := [.int (nI k), .int (nI 3)]) (rest := []) ⟨hx, hb, hml, hown, hts⟩ (kX4_sheet_3 l G ad σ T o n fX x len k (hO) (by omega) (by omega) (by omega) (zD_any (zD_r hD))) (cwV 2 hts gL_isSo_X4_sheet rfl rfl rfl (by decide +kernel) ⟨Nat.le_of_ble_eq_true rfl, Nat.le_of_ble_eq_true rfl⟩) (zPreV hG (va_recv (q0 := 0) (ci := 4) hG.1 (zP_r hP) rfl rfl) (zP_r hP)) rfl rfl hl.1 rfl (lv_room (Nat.le_of_ble_eq_true rfl)) dL_isSo_437 ⟨Nat.le_of_ble_eq_true rfl, Nat.le_of_ble_eq_true rfl⟩) hP hD hS (wX_map ..) (fun H locs hP hD hS => ?_)
                                        refine lv_iload hx hb dL_isSo_440 (lv_at hl 13 rfl) ?_
                                        refine lv_icmp_ne (tgt := 554) hx hb dL_isSo_442 (by decide) (fun h442 => ?_) (fun h442 => ?_)
                                        · skip
                                          exact absurd (congrArg nI (hagq.symm)) h442
                                        · skip
                                          refine lv_aload_n hx hb dL_isSo_445 rfl (lv_at hl 4 rfl) ?_
                                          refine lv_iload hx hb dL_isSo_446 (lv_at hl 11 rfl) ?_
                                          refine lv_iconst (v := nI 4) hx hb dL_isSo_448 (by decide) ?_
                                          refine zwrR (G := G) (w1 := (wL G q σ)) (wc := wX G ad σ T o n fX x len) (wc' := wX G ad σ T o n fX x len) (va_runV (As := [.int (nI k), .int (nI 4)]) (rest := []) ⟨hx, hb, hml, hown, hts⟩ (kX4_sheet_4 l G ad σ T o n fX x len k (hO) (by omega) (by omega) (by omega) (zD_any (zD_r hD))) (cwV 2 hts gL_isSo_X4_sheet rfl rfl rfl (by decide +kernel) ⟨Nat.le_of_ble_eq_true rfl, Nat.le_of_ble_eq_true rfl⟩) (zPreV hG (va_recv (q0 := 0) (ci := 4) hG.1 (zP_r hP) rfl rfl) (zP_r hP)) rfl rfl hl.1 rfl (lv_room (Nat.le_of_ble_eq_true rfl)) dL_isSo_449 ⟨Nat.le_of_ble_eq_true rfl, Nat.le_of_ble_eq_true rfl⟩) hP hD hS (wX_map ..) (fun H locs hP hD hS => ?_)
                                          refine lv_aload_n hx hb dL_isSo_452 rfl (lv_at hl 6 rfl) ?_
                                          refine lv_iload hx hb dL_isSo_453 (lv_at hl 11 rfl) ?_
                                          refine va_iald hx hb hG.1 hP 1 0 rfl rfl (vp_in_nI (n := k) (N := 18) (by omega) (by omega)) dL_isSo_455 ?_
                                          refine lv_topi (nm_r (e' := nI (rvn σ k)) (by rw [nI_clamp (by omega)]; unfold rF; rw [if_pos (by omega)]) ?_)
                                          refine lv_icmp_ne (tgt := 554) hx hb dL_isSo_456 (by decide) (fun h456 => ?_) (fun h456 => ?_)
                                          · skip
                                            exact absurd rfl h456
                                          · skip
                                            refine lv_aload_n hx hb dL_isSo_459 rfl (lv_at hl 4 rfl) ?_
                                            refine lv_iload hx hb dL_isSo_460 (lv_at hl 11 rfl) ?_
                                            refine lv_iconst (v := nI 5) hx hb dL_isSo_462 (by decide) ?_
                                            refine zwrR (G := G) (w1 := (wL G q σ)) (wc := wX G ad σ T o n fX x len) (wc' := wX G ad σ T o n fX x len) (va_runV (As := [.int (nI k), .int (nI 5)]) (rest := []) ⟨hx, hb, hml, hown, hts⟩ (kX4_sheet_5 l G ad σ T o n fX x len k (hO) (by omega) (by omega) (by omega) (zD_any (zD_r hD))) (cwV 2 hts gL_isSo_X4_sheet rfl rfl rfl (by decide +kernel) ⟨Nat.le_of_ble_eq_true rfl, Nat.le_of_ble_eq_true rfl⟩) (zPreV hG (va_recv (q0 := 0) (ci := 4) hG.1 (zP_r hP) rfl rfl) (zP_r hP)) rfl rfl hl.1 rfl (lv_room (Nat.le_of_ble_eq_true rfl)) dL_isSo_463 ⟨Nat.le_of_ble_eq_true rfl, Nat.le_of_ble_eq_true rfl⟩) hP hD hS (wX_map ..) (fun H locs hP hD hS => ?_)
                                            refine lv_aload_n hx hb dL_isSo_466 rfl (lv_at hl 6 rfl) ?_
                                            refine lv_bipush (v := nI 6) hx hb dL_isSo_467 (by decide) ?_
                                            refine lv_iload hx hb dL_isSo_469 (lv_at hl 11 rfl) ?_
                                            refine lv_iadd hx hb dL_isSo_471 ?_
                                            refine lv_topi (nm_r (e' := nI (6 + k)) (nI_add _ _) ?_)
                                            refine va_iald hx hb hG.1 hP 1 0 rfl rfl (vp_in_nI (n := 6 + k) (N := 18) (by omega) (by omega)) dL_isSo_472 ?_
                                            refine lv_topi (nm_r (e' := zc4 (pbn σ k)) (by rw [nI_clamp (by omega)]; unfold rF; rw [if_neg (by omega), if_pos (by omega), Nat.add_sub_cancel_left]) ?_)
                                            refine lv_icmp_ne (tgt := 554) hx hb dL_isSo_473 (by decide) (fun h473 => ?_) (fun h473 => ?_)
                                            · skip
                                              exact absurd rfl h473
                                            · skip
                                              refine lv_aload_n hx hb dL_isSo_476 rfl (lv_at hl 4 rfl) ?_
                                              refine lv_iload hx hb dL_isSo_477 (lv_at hl 11 rfl) ?_
                                              refine lv_bipush (v := nI 6) hx hb dL_isSo_479 (by decide) ?_
                                              refine zwrR (G := G) (w1 := (wL G q σ)) (wc := wX G ad σ T o n fX x len) (wc' := wX G ad σ T o n fX x len) (va_runV (As := [.int (nI k), .int (nI 6)]) (rest := []) ⟨hx, hb, hml, hown, hts⟩ (kX4_sheet_6 l G ad σ T o n fX x len k (hO) (by omega) (by omega) (by omega) (zD_any (zD_r hD))) (cwV 2 hts gL_isSo_X4_sheet rfl rfl rfl (by decide +kernel) ⟨Nat.le_of_ble_eq_true rfl, Nat.le_of_ble_eq_true rfl⟩) (zPreV hG (va_recv (q0 := 0) (ci := 4) hG.1 (zP_r hP) rfl rfl) (zP_r hP)) rfl rfl hl.1 rfl (lv_room (Nat.le_of_ble_eq_true rfl)) dL_isSo_481 ⟨Nat.le_of_ble_eq_true rfl, Nat.le_of_ble_eq_true rfl⟩) hP hD hS (wX_map ..) (fun H locs hP hD hS => ?_)
                                              have mg484 : W pr l en (zRm 8 190) st mi ar bl me cd H locs 0 0 Q (F0 mi 503 ls [.int (if pbn σ k = rvn σ k + 1 then nI 1 else nI 0), .int (if pbn σ k = rvn σ k + 1 then nI 1 else nI 0)]) := by
                                                refine lv_icmp_ne (tgt := 554) hx hb dL_isSo_503 (by decide) (fun h503 => ?_) (fun h503 => ?_)
                                                · skip
                                                  exact absurd rfl h503
                                                · skip
                                                  refine lv_aload_n hx hb dL_isSo_506 rfl (lv_at hl 4 rfl) ?_
                                                  refine lv_iload hx hb dL_isSo_507 (lv_at hl 11 rfl) ?_
                                                  refine lv_bipush (v := nI 7) hx hb dL_isSo_509 (by decide) ?_
                                                  refine zwrR (G := G) (w1 := (wL G q σ)) (wc := wX G ad σ T o n fX x len) (wc' := wX G ad σ T o n fX x len) (va_runV (As := [.int (nI k), .int (nI 7)]) (rest := []) ⟨hx, hb, hml, hown, hts⟩ (kX4_sheet_7 l G ad σ T o n fX x len k (hO) (by omega) (by omega) (by omega) (zD_any (zD_r hD))) (cwV 2 hts gL_isSo_X4_sheet rfl rfl rfl (by decide +kernel) ⟨Nat.le_of_ble_eq_true rfl, Nat.le_of_ble_eq_true rfl⟩) (zPreV hG (va_recv (q0 := 0) (ci := 4) hG.1 (zP_r hP) rfl rfl) (zP_r hP)) rfl rfl hl.1 rfl (lv_room (Nat.le_of_ble_eq_true rfl)) dL_isSo_511 ⟨Nat.le_of_ble_eq_true rfl, Nat.le_of_ble_eq_true rfl⟩) hP hD hS (wX_map ..) (fun H locs hP hD hS => ?_)
                                                  refine lv_aload_n hx hb dL_isSo_514 rfl (lv_at hl 6 rfl) ?_
                                                  refine lv_bipush (v := nI 12) hx hb dL_isSo_515 (by decide) ?_
                                                  refine lv_iload hx hb dL_isSo_517 (lv_at hl 11 rfl) ?_
                                                  refine lv_iadd hx hb dL_isSo_519 ?_
                                                  refine lv_topi (nm_r (e' := nI (12 + k)) (nI_add _ _) ?_)
                                                  refine va_iald hx hb hG.1 hP 1 0 rfl rfl (vp_in_nI (n := 12 + k) (N := 18) (by omega) (by omega)) dL_isSo_520 ?_
                                                  refine lv_topi (nm_r (e' := nI (scn σ k)) (by rw [nI_clamp (by omega)]; unfold rF; rw [if_neg (by omega), if_neg (by omega), Nat.add_sub_cancel_left]) ?_)
                                                  refine lv_icmp_ne (tgt := 554) hx hb dL_isSo_521 (by decide) (fun h521 => ?_) (fun h521 => ?_)
                                                  · skip
                                                    exact absurd rfl h521
                                                  · skip
                                                    refine lv_aload_n hx hb dL_isSo_524 rfl (lv_at hl 4 rfl) ?_
                                                    refine lv_iload hx hb dL_isSo_525 (lv_at hl 11 rfl) ?_
                                                    refine lv_bipush (v := nI 8) hx hb dL_isSo_527 (by decide) ?_
                                                    refine zwrR (G := G) (w1 := (wL G q σ)) (wc := wX G ad σ T o n fX x len) (wc' := wX G ad σ T o n fX x len) (va_runV (As := [.int (nI k), .int (nI 8)]) (rest := []) ⟨hx, hb, hml, hown, hts⟩ (kX4_sheet_8 l G ad σ T o n fX x len k (hO) (by omega) (by omega) (by omega) (zD_any (zD_r hD))) (cwV 2 hts gL_isSo_X4_sheet rfl rfl rfl (by decide +kernel) ⟨Nat.le_of_ble_eq_true rfl, Nat.le_of_ble_eq_true rfl⟩) (zPreV hG (va_recv (q0 := 0) (ci := 4) hG.1 (zP_r hP) rfl rfl) (zP_r hP)) rfl rfl hl.1 rfl (lv_room (Nat.le_of_ble_eq_true rfl)) dL_isSo_529 ⟨Nat.le_of_ble_eq_true rfl, Nat.le_of_ble_eq_true rfl⟩) hP hD hS (wX_map ..) (fun H locs hP hD hS => ?_)
                                                    refine lv_iload hx hb dL_isSo_532 (lv_at hl 14 rfl) ?_
                                                    refine lv_icmp_ne (tgt := 554) hx hb dL_isSo_534 (by decide) (fun h534 => ?_) (fun h534 => ?_)
                                                    · skip
                                                      exact absurd (congrArg nI (hsgq.symm)) h534
                                                    · skip
                                                      refine lv_aload_n hx hb dL_isSo_537 rfl (lv_at hl 4 rfl) ?_
                                                      refine lv_iload hx hb dL_isSo_538 (lv_at hl 11 rfl) ?_
                                                      refine lv_bipush (v := nI 9) hx hb dL_isSo_540 (by decide) ?_
                                                      refine zwrR (G := G) (w1 := (wL G q σ)) (wc := wX G ad σ T o n fX x len) (wc' := wX G ad σ T o n (fun k => nI (blk σ (nE σ) k)) x len) (va_runV (As := [.int (nI k), .int (nI 9)]) (rest := []) ⟨hx, hb, hml, hown, hts⟩ (kX4_sheet_9 l G ad σ T o n fX x len k (hO) (by omega) (by omega) (by omega) (zD_any (zD_r hD))) (cwV 2 hts gL_isSo_X4_sheet rfl rfl rfl (by decide +kernel) ⟨Nat.le_of_ble_eq_true rfl, Nat.le_of_ble_eq_true rfl⟩) (zPreV hG (va_recv (q0 := 0) (ci := 4) hG.1 (zP_r hP) rfl rfl) (zP_r hP)) rfl rfl hl.1 rfl (lv_room (Nat.le_of_ble_eq_true rfl)) dL_isSo_542 ⟨Nat.le_of_ble_eq_true rfl, Nat.le_of_ble_eq_true rfl⟩) hP hD hS (wX_map ..) (fun H locs hP hD hS => ?_)
                                                      refine lv_iload hx hb dL_isSo_545 (lv_at hl 3 rfl) ?_
                                                      refine lv_icmp_ne (tgt := 554) hx hb dL_isSo_547 (by decide) (fun h547 => ?_) (fun h547 => ?_)
                                                      · skip
                                                        exact absurd rfl h547
                                                      · skip
                                                        refine lv_iconst (v := nI 1) hx hb dL_isSo_550 (by decide) ?_
                                                        refine lv_goto (tgt := 555) hx hb dL_isSo_551 (by decide) ?_
                                                        refine lv_istore (lv' := [(9, .int (nI 1)), (8, .int (nI (fr + (if pbn σ k = rvn σ k + 1 then 1 else 0)))), (7, .int (nI (pu + (if pbn σ k = 0 then 0 else 1)))), (6, .int (nI (bk + (if blk σ (nE σ) k = k then 1 else 0)))), (14, .int (nI (blk σ (nE σ) k))), (0, .ref (ad 0 0)), (1, .ref (q 0)), (2, .ref (q 1)), (3, .ref (q 2)), (4, .ref (q 3)), (5, .int (nI (nS σ))), (10, .int (nI k)), (11, .int (nI ed)), (12, .int (nI ag)), (13, .int (nI sg))]) hx hb dL_isSo_555 hl (by decide) rfl (fun ls hl => ?_)
                                                        refine lv_iinc (v := nI (k + 1)) (lv' := [(10, .int (nI (k + 1))), (9, .int (nI 1)), (8, .int (nI (fr + (if pbn σ k = rvn σ k + 1 then 1 else 0)))), (7, .int (nI (pu + (if pbn σ k = 0 then 0 else 1)))), (6, .int (nI (bk + (if blk σ (nE σ) k = k then 1 else 0)))), (14, .int (nI (blk σ (nE σ) k))), (0, .ref (ad 0 0)), (1, .ref (q 0)), (2, .ref (q 1)), (3, .ref (q 2)), (4, .ref (q 3)), (5, .int (nI (nS σ))), (11, .int (nI ed)), (12, .int (nI ag)), (13, .int (nI sg))]) hx hb dL_isSo_557 hl (k := 11) rfl (zinc1 _) (by decide) rfl (fun ls hl => ?_)
                                                        refine lv_goto (tgt := 84) hx hb dL_isSo_560 (by decide) ?_
                                                        exact ih84 (k + 1) (bk + (if blk σ (nE σ) k = k then 1 else 0)) (pu + (if pbn σ k = 0 then 0 else 1)) (fr + (if pbn σ k = rvn σ k + 1 then 1 else 0)) (fun k => nI (blk σ (nE σ) k)) (by rw [sm, ← hbl]) (by rw [sm, ← hpu]) (by rw [sm, ← hfr]) (by omega) (by omega) _ (lv_sub hl [6, 7, 8, 9, 10, 11, 4, 3, 2, 1, 0] rfl) _ _ hP hD hS
                                              refine lv_aload_n hx hb dL_isSo_484 rfl (lv_at hl 6 rfl) ?_
                                              refine lv_bipush (v := nI 6) hx hb dL_isSo_485 (by decide) ?_
                                              refine lv_iload hx hb dL_isSo_487 (lv_at hl 11 rfl) ?_
                                              refine lv_iadd hx hb dL_isSo_489 ?_
                                              refine lv_topi (nm_r (e' := nI (6 + k)) (nI_add _ _) ?_)
                                              refine va_iald hx hb hG.1 hP 1 0 rfl rfl (vp_in_nI (n := 6 + k) (N := 18) (by omega) (by omega)) dL_isSo_490 ?_
                                              refine lv_topi (nm_r (e' := zc4 (pbn σ k)) (by rw [nI_clamp (by omega)]; unfold rF; rw [if_neg (by omega), if_pos (by omega), Nat.add_sub_cancel_left]) ?_)
                                              refine lv_aload_n hx hb dL_isSo_491 rfl (lv_at hl 6 rfl) ?_
                                              refine lv_iload hx hb dL_isSo_492 (lv_at hl 11 rfl) ?_
                                              refine va_iald hx hb hG.1 hP 1 0 rfl rfl (vp_in_nI (n := k) (N := 18) (by omega) (by omega)) dL_isSo_494 ?_
                                              refine lv_topi (nm_r (e' := nI (rvn σ k)) (by rw [nI_clamp (by omega)]; unfold rF; rw [if_pos (by omega)]) ?_)
                                              refine lv_icmp_ne (tgt := 502) hx hb dL_isSo_495 (by decide) (fun h495 => ?_) (fun h495 => ?_)
                                              · skip
                                                have h495 : ¬ (pbn σ k = rvn σ k + 1) := fun q => h495 ((zc4_eq (by omega) (by omega)).mpr q)
                                                refine lv_iconst (v := nI 0) hx hb dL_isSo_502 (by decide) ?_
                                                refine lv_topi (nm_r (e' := (if pbn σ k = rvn σ k + 1 then nI 1 else nI 0)) (by rw [if_neg h495]) ?_)
                                                exact mg484
                                              · skip
                                                have h495 : pbn σ k = rvn σ k + 1 := (zc4_eq (by omega) (by omega)).mp h495
                                                refine lv_iconst (v := nI 1) hx hb dL_isSo_498 (by decide) ?_
                                                refine lv_goto (tgt := 503) hx hb dL_isSo_499 (by decide) ?_
                                                refine lv_topi (nm_r (e' := (if pbn σ k = rvn σ k + 1 then nI 1 else nI 0)) (by rw [if_pos h495]) ?_)
                                                exact mg484
                              refine lv_aload_n hx hb dL_isSo_362 rfl (lv_at hl 5 rfl) ?_
                              refine lv_bipush (v := nI 6) hx hb dL_isSo_363 (by decide) ?_
                              refine lv_iload hx hb dL_isSo_365 (lv_at hl 11 rfl) ?_
                              refine lv_iadd hx hb dL_isSo_367 ?_
                              refine lv_topi (nm_r (e' := nI (6 + k)) (nI_add _ _) ?_)
                              refine va_iald hx hb hG.1 hP 1 0 rfl rfl (vp_in_nI (n := 6 + k) (N := 18) (by omega) (by omega)) dL_isSo_368 ?_
                              refine lv_topi (nm_r (e' := zc4 (pbn σ k)) (by rw [nI_clamp (by omega)]; unfold rF; rw [if_neg (by omega), if_pos (by omega), Nat.add_sub_cancel_left]) ?_)
                              refine lv_aload_n hx hb dL_isSo_369 rfl (lv_at hl 5 rfl) ?_
                              refine lv_iload hx hb dL_isSo_370 (lv_at hl 11 rfl) ?_
                              refine va_iald hx hb hG.1 hP 1 0 rfl rfl (vp_in_nI (n := k) (N := 18) (by omega) (by omega)) dL_isSo_372 ?_
                              refine lv_topi (nm_r (e' := nI (rvn σ k)) (by rw [nI_clamp (by omega)]; unfold rF; rw [if_pos (by omega)]) ?_)
                              refine lv_icmp_ne (tgt := 380) hx hb dL_isSo_373 (by decide) (fun h373 => ?_) (fun h373 => ?_)
                              · skip
                                have h373 : ¬ (pbn σ k = rvn σ k + 1) := fun q => h373 ((zc4_eq (by omega) (by omega)).mpr q)
                                refine lv_iconst (v := nI 0) hx hb dL_isSo_380 (by decide) ?_
                                refine lv_topi (nm_r (e' := (nI (if pbn σ k = rvn σ k + 1 then 1 else 0))) (by rw [if_neg h373]) ?_)
                                exact mg362
                              · skip
                                have h373 : pbn σ k = rvn σ k + 1 := (zc4_eq (by omega) (by omega)).mp h373
                                refine lv_iconst (v := nI 1) hx hb dL_isSo_376 (by decide) ?_
                                refine lv_goto (tgt := 381) hx hb dL_isSo_377 (by decide) ?_
                                refine lv_topi (nm_r (e' := (nI (if pbn σ k = rvn σ k + 1 then 1 else 0))) (by rw [if_pos h373]) ?_)
                                exact mg362
                            refine lv_aload_n hx hb dL_isSo_342 rfl (lv_at hl 4 rfl) ?_
                            refine lv_bipush (v := nI 6) hx hb dL_isSo_343 (by decide) ?_
                            refine lv_iload hx hb dL_isSo_345 (lv_at hl 11 rfl) ?_
                            refine lv_iadd hx hb dL_isSo_347 ?_
                            refine lv_topi (nm_r (e' := nI (6 + k)) (nI_add _ _) ?_)
                            refine va_iald hx hb hG.1 hP 1 0 rfl rfl (vp_in_nI (n := 6 + k) (N := 18) (by omega) (by omega)) dL_isSo_348 ?_
                            refine lv_topi (nm_r (e' := zc4 (pbn σ k)) (by rw [nI_clamp (by omega)]; unfold rF; rw [if_neg (by omega), if_pos (by omega), Nat.add_sub_cancel_left]) ?_)
                            refine lv_if_lt (tgt := 356) hx hb dL_isSo_349 (by decide) (fun h349 => ?_) (fun h349 => ?_)
                            · skip
                              have h349 : pbn σ k = 0 := (zc4_lt (by omega)).mp h349
                              refine lv_iconst (v := nI 0) hx hb dL_isSo_356 (by decide) ?_
                              refine lv_topi (nm_r (e' := (nI (if pbn σ k = 0 then 0 else 1))) (by rw [if_pos h349]) ?_)
                              exact mg342
                            · skip
                              have h349 : ¬ (pbn σ k = 0) := fun q => h349 ((zc4_lt (by omega)).mpr q)
                              refine lv_iconst (v := nI 1) hx hb dL_isSo_352 (by decide) ?_
                              refine lv_goto (tgt := 357) hx hb dL_isSo_353 (by decide) ?_
                              refine lv_topi (nm_r (e' := (nI (if pbn σ k = 0 then 0 else 1))) (by rw [if_neg h349]) ?_)
                              exact mg342
                          refine lv_iload hx hb dL_isSo_325 (lv_at hl 0 rfl) ?_
                          refine lv_iload hx hb dL_isSo_327 (lv_at hl 11 rfl) ?_
                          refine lv_icmp_ne (tgt := 336) hx hb dL_isSo_329 (by decide) (fun h329 => ?_) (fun h329 => ?_)
                          · skip
                            have h329 : ¬ ((blk σ (nE σ) k) = k) := fun q => h329 ((nI_eq (by omega) (by omega)).mpr q)
                            refine lv_iconst (v := nI 0) hx hb dL_isSo_336 (by decide) ?_
                            refine lv_topi (nm_r (e' := (nI (if blk σ (nE σ) k = k then 1 else 0))) (by rw [if_neg h329]) ?_)
                            exact mg325
                          · skip
                            have h329 : (blk σ (nE σ) k) = k := (nI_eq (by omega) (by omega)).mp h329
                            refine lv_iconst (v := nI 1) hx hb dL_isSo_332 (by decide) ?_
                            refine lv_goto (tgt := 337) hx hb dL_isSo_333 (by decide) ?_
                            refine lv_topi (nm_r (e' := (nI (if blk σ (nE σ) k = k then 1 else 0))) (by rw [if_pos h329]) ?_)
                            exact mg325
                        · skip
                          have h111 : ¬ (4 ≤ d) := fun q => h111 ((nI_leI (by omega) (by omega)).mpr q)
                          have hlo := hO.lO (show k < nS σ by omega) (show d < 4 by omega)
                          have hedl : ed ≤ d := by rw [hed]; exact sm_01 d
                          have hagf := agF_le hO (eO σ k d)
                          refine lv_aload_n hx hb dL_isSo_114 rfl (lv_at hl 1 rfl) ?_
                          refine lv_iload hx hb dL_isSo_115 (lv_at hl 10 rfl) ?_
                          refine lv_iload hx hb dL_isSo_117 (lv_at hl 14 rfl) ?_
                          refine zrdS (As := [.ref (q 0), .int (nI k), .int (nI d)]) ⟨hx, hb, hml, hown, hts⟩ (kL_edgeAt l G q σ k d (hO) (hM) (by omega) (by omega)) (va_cwS 3 hts gL_isSo_L_edgeAt rfl rfl rfl (by decide +kernel) ⟨Nat.le_of_ble_eq_true rfl, Nat.le_of_ble_eq_true rfl⟩) hG (zP_l hP) rfl rfl hl.1 dL_isSo_119 (Nat.le_of_ble_eq_true rfl) ⟨Nat.le_of_ble_eq_true rfl, Nat.le_of_ble_eq_true rfl⟩ ?_
                          have hf119_0 := hO.lO (show k < nS σ by omega) (show d < 4 by omega)
                          refine lv_istore (lv' := [(15, .int (zc 60 (eO σ k d))), (0, .ref (ad 0 0)), (1, .ref (q 0)), (2, .ref (q 1)), (3, .ref (q 2)), (4, .ref (q 3)), (5, .int (nI (nS σ))), (6, .int (nI bk)), (7, .int (nI pu)), (8, .int (nI fr)), (9, .int (nI 1)), (10, .int (nI k)), (11, .int (nI ed)), (12, .int (nI ag)), (13, .int (nI sg)), (14, .int (nI d))]) hx hb dL_isSo_122 hl (by decide) rfl (fun ls hl => ?_)
                          refine lv_iload hx hb dL_isSo_124 (lv_at hl 10 rfl) ?_
                          refine lv_if_eq (tgt := 146) hx hb dL_isSo_126 (by decide) (fun h126 => ?_) (fun h126 => ?_)
                          · skip
                            have h126 : 1 = 0 := (z_eq0 (by omega)).mp h126
                            exfalso; omega
                          · skip
                            have h126 : ¬ (1 = 0) := fun q => h126 ((z_eq0 (by omega)).mpr q)
                            have h126 : 0 < 1 := Nat.pos_of_ne_zero h126
                            refine lv_aload_n hx hb dL_isSo_129 rfl (lv_at hl 1 rfl) ?_
                            refine lv_iload hx hb dL_isSo_130 (lv_at hl 11 rfl) ?_
                            refine lv_iload hx hb dL_isSo_132 (lv_at hl 15 rfl) ?_
                            refine zwrR (G := G) (w1 := (wL G q σ)) (wc := wX G ad σ T o n fX x len) (wc' := wX G ad σ T o n fX x len) (va_runV (As := [.int (nI k), .int (nI d)]) (rest := []) ⟨hx, hb, hml, hown, hts⟩ (kX4_edgeAt_ok l G ad σ T o n fX x len k d (hO) (by omega) (by omega) (by omega) (by omega) (zD_any (zD_r hD))) (cwV 2 hts gL_isSo_X4_edgeAt rfl rfl rfl (by decide +kernel) ⟨Nat.le_of_ble_eq_true rfl, Nat.le_of_ble_eq_true rfl⟩) (zPreV hG (va_recv (q0 := 0) (ci := 4) hG.1 (zP_r hP) rfl rfl) (zP_r hP)) rfl rfl hl.1 rfl (lv_room (Nat.le_of_ble_eq_true rfl)) dL_isSo_134 ⟨Nat.le_of_ble_eq_true rfl, Nat.le_of_ble_eq_true rfl⟩) hP hD hS (wX_map ..) (fun H locs hP hD hS => ?_)
                            refine lv_iload hx hb dL_isSo_137 (lv_at hl 0 rfl) ?_
                            refine lv_icmp_ne (tgt := 146) hx hb dL_isSo_139 (by decide) (fun h139 => ?_) (fun h139 => ?_)
                            · skip
                              exact absurd rfl h139
                            · skip
                              refine lv_iconst (v := nI 1) hx hb dL_isSo_142 (by decide) ?_
                              refine lv_goto (tgt := 147) hx hb dL_isSo_143 (by decide) ?_
                              refine lv_istore (lv' := [(9, .int (nI 1)), (15, .int (zc 60 (eO σ k d))), (0, .ref (ad 0 0)), (1, .ref (q 0)), (2, .ref (q 1)), (3, .ref (q 2)), (4, .ref (q 3)), (5, .int (nI (nS σ))), (6, .int (nI bk)), (7, .int (nI pu)), (8, .int (nI fr)), (10, .int (nI k)), (11, .int (nI ed)), (12, .int (nI ag)), (13, .int (nI sg)), (14, .int (nI d))]) hx hb dL_isSo_147 hl (by decide) rfl (fun ls hl => ?_)
                              refine lv_iload hx hb dL_isSo_149 (lv_at hl 12 rfl) ?_
                              have mg151 : W pr l en (zRm 8 190) st mi ar bl me cd H locs 0 0 Q (F0 mi 161 ls [.int (nI (if eO σ k d = 60 then 0 else 1)), .int (nI ed)]) := by
                                refine lv_iadd hx hb dL_isSo_161 ?_
                                refine lv_topi (nm_r (e' := nI (ed + (if eO σ k d = 60 then 0 else 1))) (nI_add _ _) ?_)
                                refine lv_istore (lv' := [(11, .int (nI (ed + (if eO σ k d = 60 then 0 else 1)))), (9, .int (nI 1)), (15, .int (zc 60 (eO σ k d))), (0, .ref (ad 0 0)), (1, .ref (q 0)), (2, .ref (q 1)), (3, .ref (q 2)), (4, .ref (q 3)), (5, .int (nI (nS σ))), (6, .int (nI bk)), (7, .int (nI pu)), (8, .int (nI fr)), (10, .int (nI k)), (12, .int (nI ag)), (13, .int (nI sg)), (14, .int (nI d))]) hx hb dL_isSo_162 hl (by decide) rfl (fun ls hl => ?_)
                                refine lv_iload hx hb dL_isSo_164 (lv_at hl 13 rfl) ?_
                                have mg166 : W pr l en (zRm 8 190) st mi ar bl me cd H locs 0 0 Q (F0 mi 188 ls [.int (nI (if agF σ (eO σ k d) = 1 then 1 else 0)), .int (nI ag)]) := by
                                  refine lv_iadd hx hb dL_isSo_188 ?_
                                  refine lv_topi (nm_r (e' := nI (ag + (if agF σ (eO σ k d) = 1 then 1 else 0))) (nI_add _ _) ?_)
                                  refine lv_istore (lv' := [(12, .int (nI (ag + (if agF σ (eO σ k d) = 1 then 1 else 0)))), (11, .int (nI (ed + (if eO σ k d = 60 then 0 else 1)))), (9, .int (nI 1)), (15, .int (zc 60 (eO σ k d))), (0, .ref (ad 0 0)), (1, .ref (q 0)), (2, .ref (q 1)), (3, .ref (q 2)), (4, .ref (q 3)), (5, .int (nI (nS σ))), (6, .int (nI bk)), (7, .int (nI pu)), (8, .int (nI fr)), (10, .int (nI k)), (13, .int (nI sg)), (14, .int (nI d))]) hx hb dL_isSo_189 hl (by decide) rfl (fun ls hl => ?_)
                                  refine lv_iconst (v := nI 0) hx hb dL_isSo_191 (by decide) ?_
                                  refine lv_istore (lv' := [(16, .int (nI 0)), (12, .int (nI (ag + (if agF σ (eO σ k d) = 1 then 1 else 0)))), (11, .int (nI (ed + (if eO σ k d = 60 then 0 else 1)))), (9, .int (nI 1)), (15, .int (zc 60 (eO σ k d))), (0, .ref (ad 0 0)), (1, .ref (q 0)), (2, .ref (q 1)), (3, .ref (q 2)), (4, .ref (q 3)), (5, .int (nI (nS σ))), (6, .int (nI bk)), (7, .int (nI pu)), (8, .int (nI fr)), (10, .int (nI k)), (13, .int (nI sg)), (14, .int (nI d))]) hx hb dL_isSo_192 hl (by decide) rfl (fun ls hl => ?_)
                                  have loop194 : ∀ (u : Nat) (p : Nat) (s2 : Nat) (hs2 : s2 = sm (fun j => if σ (64 + 53 * k + j) = 10 then 0 else 1) (10 * d + p)) (hp : p ≤ 10) (hu : 10 < p + u) (ls : Array Slot) (hl : lv_has ls 18 [(0, .ref (ad 0 0)), (1, .ref (q 0)), (2, .ref (q 1)), (3, .ref (q 2)), (4, .ref (q 3)), (5, .int (nI (nS σ))), (6, .int (nI bk)), (7, .int (nI pu)), (8, .int (nI fr)), (9, .int (nI 1)), (10, .int (nI k)), (11, .int (nI (ed + (if eO σ k d = 60 then 0 else 1)))), (12, .int (nI (ag + (if agF σ (eO σ k d) = 1 then 1 else 0)))), (13, .int (nI s2)), (14, .int (nI d)), (16, .int (nI p))]) (H : Heap) (locs : List Loc) (hP : va_P G.1 vwCl ((wL G q σ) ++ wX G ad σ T o n fX x len) H) (hD : va_D (zA ((wL G q σ) ++ wX G ad σ T o n f x len)) ((wL G q σ) ++ wX G ad σ T o n fX x len)) (hS : va_S (zA ((wL G q σ) ++ wX G ad σ T o n f x len)) st.heap H locs), W pr l en (zRm 8 190) st mi ar bl me cd H locs 0 0 Q (F0 mi 194 ls []) := by
                                    intro u
                                    induction u with
                                    | zero => intro p s2 hs2 hp hu ls hl H locs hP hD hS; exfalso; omega
                                    | succ u ih194 =>
                                      intro p s2 hs2 hp hu ls hl H locs hP hD hS
                                      refine lv_iload hx hb dL_isSo_194 (lv_at hl 15 rfl) ?_
                                      refine lv_bipush (v := nI 10) hx hb dL_isSo_196 (by decide) ?_
                                      refine lv_icmp_ge (tgt := 309) hx hb dL_isSo_198 (by decide) (fun h198 => ?_) (fun h198 => ?_)
                                      · skip
                                        have h198 : 10 ≤ p := (nI_leI (by omega) (by omega)).mp h198
                                        refine lv_iinc (v := nI (d + 1)) (lv' := [(14, .int (nI (d + 1))), (0, .ref (ad 0 0)), (1, .ref (q 0)), (2, .ref (q 1)), (3, .ref (q 2)), (4, .ref (q 3)), (5, .int (nI (nS σ))), (6, .int (nI bk)), (7, .int (nI pu)), (8, .int (nI fr)), (9, .int (nI 1)), (10, .int (nI k)), (11, .int (nI (ed + (if eO σ k d = 60 then 0 else 1)))), (12, .int (nI (ag + (if agF σ (eO σ k d) = 1 then 1 else 0)))), (13, .int (nI s2)), (16, .int (nI p))]) hx hb dL_isSo_309 hl (k := 14) rfl (zinc1 _) (by decide) rfl (fun ls hl => ?_)
                                        refine lv_goto (tgt := 108) hx hb dL_isSo_312 (by decide) ?_
                                        exact ih108 (d + 1) (ed + (if eO σ k d = 60 then 0 else 1)) (ag + (if agF σ (eO σ k d) = 1 then 1 else 0)) s2 (by rw [sm, ← hed]) (by rw [sm, ← hag]) (by rw [hs2, show 10 * d + p = 10 * (d + 1) by omega]) (by omega) (by omega) _ (lv_sub hl [1, 2, 3, 4, 5, 6, 7, 8, 9, 10, 11, 12, 13, 14, 0] rfl) _ _ hP hD hS
                                      · skip
                                        have h198 : ¬ (10 ≤ p) := fun q => h198 ((nI_leI (by omega) (by omega)).mpr q)
                                        have hsgn := hO.sg (show k < 36 by omega) (show d < 4 by omega) (show p < 10 by omega)
                                        have hal := aN_lt hO (show k < 36 by omega) (show d < 4 by omega)
                                        have hbll := bN_lt hO (show k < 36 by omega)
                                        have hmg := hO.mg (show k < 36 by omega) (show p < 10 by omega)
                                        refine lv_aload_n hx hb dL_isSo_201 rfl (lv_at hl 3 rfl) ?_
                                        refine lv_iconst (v := nI 4) hx hb dL_isSo_202 (by decide) ?_
                                        refine lv_iload hx hb dL_isSo_203 (lv_at hl 10 rfl) ?_
                                        refine lv_imul hx hb dL_isSo_205 ?_
                                        refine lv_topi (nm_r (e' := nI (4 * k)) (pk_mul _ _) ?_)
                                        refine lv_iload hx hb dL_isSo_206 (lv_at hl 14 rfl) ?_
                                        refine lv_iadd hx hb dL_isSo_208 ?_
                                        refine lv_topi (nm_r (e' := nI ((4 * k) + d)) (nI_add _ _) ?_)
                                        refine va_lald hx hb hG.1 hP 2 3 rfl rfl (vp_in_nI (n := (4 * k) + d) (N := 24) (by omega) (by omega)) dL_isSo_209 ?_
                                        refine lv_topl (nm_r (e' := (lN (aN σ k d))) (by rw [nI_clamp (by omega)]; exact aF_at σ (by omega)) ?_)
                                        refine lv_bipush (v := nI 11) hx hb dL_isSo_210 (by decide) ?_
                                        refine lv_iload hx hb dL_isSo_212 (lv_at hl 15 rfl) ?_
                                        refine zrdS (As := [.long (lN (aN σ k d)), .int (nI 11), .int (nI p)]) ⟨hx, hb, hml, hown, hts⟩ (kL_digit l G  (aN σ k d) 11 p (by omega) (by omega) (by omega) (by omega)) (va_cwS 3 hts gL_isSo_L_digit rfl rfl rfl (by decide +kernel) ⟨Nat.le_of_ble_eq_true rfl, Nat.le_of_ble_eq_true rfl⟩) hG (trivial) rfl rfl hl.1 dL_isSo_214 (Nat.le_of_ble_eq_true rfl) ⟨Nat.le_of_ble_eq_true rfl, Nat.le_of_ble_eq_true rfl⟩ ?_
                                        refine lv_topi (nm_r (e' := (nI (sgn σ k d p))) (congrArg nI (aN_dg hO (by omega) (by omega) (by omega))) ?_)
                                        refine lv_istore (lv' := [(17, .int (nI (sgn σ k d p))), (0, .ref (ad 0 0)), (1, .ref (q 0)), (2, .ref (q 1)), (3, .ref (q 2)), (4, .ref (q 3)), (5, .int (nI (nS σ))), (6, .int (nI bk)), (7, .int (nI pu)), (8, .int (nI fr)), (9, .int (nI 1)), (10, .int (nI k)), (11, .int (nI (ed + (if eO σ k d = 60 then 0 else 1)))), (12, .int (nI (ag + (if agF σ (eO σ k d) = 1 then 1 else 0)))), (13, .int (nI s2)), (14, .int (nI d)), (16, .int (nI p))]) hx hb dL_isSo_217 hl (by decide) rfl (fun ls hl => ?_)
                                        refine lv_iload hx hb dL_isSo_219 (lv_at hl 14 rfl) ?_
                                        have mg221 : W pr l en (zRm 8 190) st mi ar bl me cd H locs 0 0 Q (F0 mi 233 ls [.int (nI (if σ (64 + 53 * k + (10 * d + p)) = 10 then 0 else 1)), .int (nI s2)]) := by
                                          refine lv_iadd hx hb dL_isSo_233 ?_
                                          refine lv_topi (nm_r (e' := nI (s2 + (if σ (64 + 53 * k + (10 * d + p)) = 10 then 0 else 1))) (nI_add _ _) ?_)
                                          refine lv_istore (lv' := [(13, .int (nI (s2 + (if σ (64 + 53 * k + (10 * d + p)) = 10 then 0 else 1)))), (17, .int (nI (sgn σ k d p))), (0, .ref (ad 0 0)), (1, .ref (q 0)), (2, .ref (q 1)), (3, .ref (q 2)), (4, .ref (q 3)), (5, .int (nI (nS σ))), (6, .int (nI bk)), (7, .int (nI pu)), (8, .int (nI fr)), (9, .int (nI 1)), (10, .int (nI k)), (11, .int (nI (ed + (if eO σ k d = 60 then 0 else 1)))), (12, .int (nI (ag + (if agF σ (eO σ k d) = 1 then 1 else 0)))), (14, .int (nI d)), (16, .int (nI p))]) hx hb dL_isSo_234 hl (by decide) rfl (fun ls hl => ?_)
                                          refine lv_iload hx hb dL_isSo_236 (lv_at hl 11 rfl) ?_
                                          refine lv_if_eq (tgt := 300) hx hb dL_isSo_238 (by decide) (fun h238 => ?_) (fun h238 => ?_)
                                          · skip
                                            have h238 : 1 = 0 := (z_eq0 (by omega)).mp h238
                                            exfalso; omega
                                          · skip
                                            have h238 : ¬ (1 = 0) := fun q => h238 ((z_eq0 (by omega)).mpr q)
                                            have h238 : 0 < 1 := Nat.pos_of_ne_zero h238
                                            refine lv_aload_n hx hb dL_isSo_241 rfl (lv_at hl 2 rfl) ?_
                                            refine lv_iload hx hb dL_isSo_242 (lv_at hl 12 rfl) ?_
                                            refine lv_iload hx hb dL_isSo_244 (lv_at hl 15 rfl) ?_
                                            refine lv_iload hx hb dL_isSo_246 (lv_at hl 16 rfl) ?_
                                            refine zwrR (G := G) (w1 := (wL G q σ)) (wc := wX G ad σ T o n fX x len) (wc' := wX G ad σ T o n fX x len) (va_runV (As := [.int (nI k), .int (nI d), .int (nI p)]) (rest := []) ⟨hx, hb, hml, hown, hts⟩ (kX4_sign_ok l G ad σ T o n fX x len k d p (hO) (by omega) (by omega) (by omega) (by omega) (by omega) (zD_any (zD_r hD))) (cwV 3 hts gL_isSo_X4_sign rfl rfl rfl (by decide +kernel) ⟨Nat.le_of_ble_eq_true rfl, Nat.le_of_ble_eq_true rfl⟩) (zPreV hG (va_recv (q0 := 0) (ci := 4) hG.1 (zP_r hP) rfl rfl) (zP_r hP)) rfl rfl hl.1 rfl (lv_room (Nat.le_of_ble_eq_true rfl)) dL_isSo_248 ⟨Nat.le_of_ble_eq_true rfl, Nat.le_of_ble_eq_true rfl⟩) hP hD hS (wX_map ..) (fun H locs hP hD hS => ?_)
                                            have mg251 : W pr l en (zRm 8 190) st mi ar bl me cd H locs 0 0 Q (F0 mi 265 ls [.int (zc 10 (sgn σ k d p)), .int (zc 10 (sgn σ k d p))]) := by
                                              refine lv_icmp_ne (tgt := 300) hx hb dL_isSo_265 (by decide) (fun h265 => ?_) (fun h265 => ?_)
                                              · skip
                                                exact absurd rfl h265
                                              · skip
                                                refine lv_iload hx hb dL_isSo_268 (lv_at hl 15 rfl) ?_
                                                refine lv_if_gt (tgt := 296) hx hb dL_isSo_270 (by decide) (fun h270 => ?_) (fun h270 => ?_)
                                                · skip
                                                  have h270 : 0 < d := (z_gt0 (by omega)).mp h270
                                                  refine lv_iconst (v := nI 1) hx hb dL_isSo_296 (by decide) ?_
                                                  refine lv_goto (tgt := 301) hx hb dL_isSo_297 (by decide) ?_
                                                  refine lv_istore (lv' := [(9, .int (nI 1)), (13, .int (nI (s2 + (if σ (64 + 53 * k + (10 * d + p)) = 10 then 0 else 1)))), (17, .int (nI (sgn σ k d p))), (0, .ref (ad 0 0)), (1, .ref (q 0)), (2, .ref (q 1)), (3, .ref (q 2)), (4, .ref (q 3)), (5, .int (nI (nS σ))), (6, .int (nI bk)), (7, .int (nI pu)), (8, .int (nI fr)), (10, .int (nI k)), (11, .int (nI (ed + (if eO σ k d = 60 then 0 else 1)))), (12, .int (nI (ag + (if agF σ (eO σ k d) = 1 then 1 else 0)))), (14, .int (nI d)), (16, .int (nI p))]) hx hb dL_isSo_301 hl (by decide) rfl (fun ls hl => ?_)
                                                  refine lv_iinc (v := nI (p + 1)) (lv' := [(16, .int (nI (p + 1))), (9, .int (nI 1)), (13, .int (nI (s2 + (if σ (64 + 53 * k + (10 * d + p)) = 10 then 0 else 1)))), (17, .int (nI (sgn σ k d p))), (0, .ref (ad 0 0)), (1, .ref (q 0)), (2, .ref (q 1)), (3, .ref (q 2)), (4, .ref (q 3)), (5, .int (nI (nS σ))), (6, .int (nI bk)), (7, .int (nI pu)), (8, .int (nI fr)), (10, .int (nI k)), (11, .int (nI (ed + (if eO σ k d = 60 then 0 else 1)))), (12, .int (nI (ag + (if agF σ (eO σ k d) = 1 then 1 else 0)))), (14, .int (nI d))]) hx hb dL_isSo_303 hl (k := 16) rfl (zinc1 _) (by decide) rfl (fun ls hl => ?_)
                                                  refine lv_goto (tgt := 194) hx hb dL_isSo_306 (by decide) ?_
                                                  exact ih194 (p + 1) (s2 + (if σ (64 + 53 * k + (10 * d + p)) = 10 then 0 else 1)) (by rw [show 10 * d + (p + 1) = (10 * d + p) + 1 by omega, sm, ← hs2]) (by omega) (by omega) _ (lv_sub hl [4, 5, 6, 7, 8, 9, 10, 11, 12, 1, 13, 14, 15, 2, 16, 0] rfl) _ _ hP hD hS
                                                · skip
                                                  have h270 : ¬ (0 < d) := fun q => h270 ((z_gt0 (by omega)).mpr q)
                                                  refine lv_aload_n hx hb dL_isSo_273 rfl (lv_at hl 2 rfl) ?_
                                                  refine lv_iload hx hb dL_isSo_274 (lv_at hl 12 rfl) ?_
                                                  refine lv_iload hx hb dL_isSo_276 (lv_at hl 16 rfl) ?_
                                                  refine zwrR (G := G) (w1 := (wL G q σ)) (wc := wX G ad σ T o n fX x len) (wc' := wX G ad σ T o n fX x len) (va_runV (As := [.int (nI k), .int (nI p)]) (rest := []) ⟨hx, hb, hml, hown, hts⟩ (kX4_meaning_ok l G ad σ T o n fX x len k p (hO) (by omega) (by omega) (by omega) (by omega) (zD_any (zD_r hD))) (cwV 2 hts gL_isSo_X4_meaning rfl rfl rfl (by decide +kernel) ⟨Nat.le_of_ble_eq_true rfl, Nat.le_of_ble_eq_true rfl⟩) (zPreV hG (va_recv (q0 := 0) (ci := 4) hG.1 (zP_r hP) rfl rfl) (zP_r hP)) rfl rfl hl.1 rfl (lv_room (Nat.le_of_ble_eq_true rfl)) dL_isSo_278 ⟨Nat.le_of_ble_eq_true rfl, Nat.le_of_ble_eq_true rfl⟩) hP hD hS (wX_map ..) (fun H locs hP hD hS => ?_)
                                                  refine lv_aload hx hb dL_isSo_281 (lv_at hl 6 rfl) ?_
                                                  refine lv_iload hx hb dL_isSo_283 (lv_at hl 12 rfl) ?_
                                                  refine va_lald hx hb hG.1 hP 3 3 rfl rfl (vp_in_nI (n := k) (N := 6) (by omega) (by omega)) dL_isSo_285 ?_
                                                  refine lv_topl (nm_r (e' := (lN (bN σ k))) (by rw [nI_clamp (by omega)]; rfl) ?_)
                                                  refine lv_bipush (v := nI 10) hx hb dL_isSo_286 (by decide) ?_
                                                  refine lv_iload hx hb dL_isSo_288 (lv_at hl 16 rfl) ?_
                                                  refine zrdS (As := [.long (lN (bN σ k)), .int (nI 10), .int (nI p)]) ⟨hx, hb, hml, hown, hts⟩ (kL_digit l G  (bN σ k) 10 p (by omega) (by omega) (by omega) (by omega)) (va_cwS 3 hts gL_isSo_L_digit rfl rfl rfl (by decide +kernel) ⟨Nat.le_of_ble_eq_true rfl, Nat.le_of_ble_eq_true rfl⟩) hG (trivial) rfl rfl hl.1 dL_isSo_290 (Nat.le_of_ble_eq_true rfl) ⟨Nat.le_of_ble_eq_true rfl, Nat.le_of_ble_eq_true rfl⟩ ?_
                                                  refine lv_topi (nm_r (e' := (nI (mng σ k p))) (congrArg nI (bN_dg hO (by omega) (by omega))) ?_)
                                                  refine lv_icmp_ne (tgt := 300) hx hb dL_isSo_293 (by decide) (fun h293 => ?_) (fun h293 => ?_)
                                                  · skip
                                                    exact absurd rfl h293
                                                  · skip
                                                    refine lv_iconst (v := nI 1) hx hb dL_isSo_296 (by decide) ?_
                                                    refine lv_goto (tgt := 301) hx hb dL_isSo_297 (by decide) ?_
                                                    refine lv_istore (lv' := [(9, .int (nI 1)), (13, .int (nI (s2 + (if σ (64 + 53 * k + (10 * d + p)) = 10 then 0 else 1)))), (17, .int (nI (sgn σ k d p))), (0, .ref (ad 0 0)), (1, .ref (q 0)), (2, .ref (q 1)), (3, .ref (q 2)), (4, .ref (q 3)), (5, .int (nI (nS σ))), (6, .int (nI bk)), (7, .int (nI pu)), (8, .int (nI fr)), (10, .int (nI k)), (11, .int (nI (ed + (if eO σ k d = 60 then 0 else 1)))), (12, .int (nI (ag + (if agF σ (eO σ k d) = 1 then 1 else 0)))), (14, .int (nI d)), (16, .int (nI p))]) hx hb dL_isSo_301 hl (by decide) rfl (fun ls hl => ?_)
                                                    refine lv_iinc (v := nI (p + 1)) (lv' := [(16, .int (nI (p + 1))), (9, .int (nI 1)), (13, .int (nI (s2 + (if σ (64 + 53 * k + (10 * d + p)) = 10 then 0 else 1)))), (17, .int (nI (sgn σ k d p))), (0, .ref (ad 0 0)), (1, .ref (q 0)), (2, .ref (q 1)), (3, .ref (q 2)), (4, .ref (q 3)), (5, .int (nI (nS σ))), (6, .int (nI bk)), (7, .int (nI pu)), (8, .int (nI fr)), (10, .int (nI k)), (11, .int (nI (ed + (if eO σ k d = 60 then 0 else 1)))), (12, .int (nI (ag + (if agF σ (eO σ k d) = 1 then 1 else 0)))), (14, .int (nI d))]) hx hb dL_isSo_303 hl (k := 16) rfl (zinc1 _) (by decide) rfl (fun ls hl => ?_)
                                                    refine lv_goto (tgt := 194) hx hb dL_isSo_306 (by decide) ?_
                                                    exact ih194 (p + 1) (s2 + (if σ (64 + 53 * k + (10 * d + p)) = 10 then 0 else 1)) (by rw [show 10 * d + (p + 1) = (10 * d + p) + 1 by omega, sm, ← hs2]) (by omega) (by omega) _ (lv_sub hl [4, 5, 6, 7, 8, 9, 10, 11, 12, 1, 13, 14, 15, 2, 16, 0] rfl) _ _ hP hD hS
                                            refine lv_iload hx hb dL_isSo_251 (lv_at hl 1 rfl) ?_
                                            refine lv_bipush (v := nI 10) hx hb dL_isSo_253 (by decide) ?_
                                            refine lv_icmp_ge (tgt := 263) hx hb dL_isSo_255 (by decide) (fun h255 => ?_) (fun h255 => ?_)
                                            · skip
                                              have h255 : 10 ≤ (sgn σ k d p) := (nI_leI (by omega) (by omega)).mp h255
                                              refine lv_bipush (v := (-4)) hx hb dL_isSo_263 (by decide) ?_
                                              refine lv_topi (nm_r (e' := (zc 10 (sgn σ k d p))) (by rw [show sgn σ k d p = 10 by omega, zc_b]) ?_)
                                              exact mg251
                                            · skip
                                              have h255 : ¬ (10 ≤ (sgn σ k d p)) := fun q => h255 ((nI_leI (by omega) (by omega)).mpr q)
                                              refine lv_iload hx hb dL_isSo_258 (lv_at hl 1 rfl) ?_
                                              refine lv_goto (tgt := 265) hx hb dL_isSo_260 (by decide) ?_
                                              refine lv_topi (nm_r (e' := (zc 10 (sgn σ k d p))) ((zc_n (by omega)).symm) ?_)
                                              exact mg251
                                        refine lv_iload hx hb dL_isSo_221 (lv_at hl 0 rfl) ?_
                                        refine lv_bipush (v := nI 10) hx hb dL_isSo_223 (by decide) ?_
                                        refine lv_icmp_ge (tgt := 232) hx hb dL_isSo_225 (by decide) (fun h225 => ?_) (fun h225 => ?_)
                                        · skip
                                          have h225 : 10 ≤ (sgn σ k d p) := (nI_leI (by omega) (by omega)).mp h225
                                          refine lv_iconst (v := nI 0) hx hb dL_isSo_232 (by decide) ?_
                                          refine lv_topi (nm_r (e' := (nI (if σ (64 + 53 * k + (10 * d + p)) = 10 then 0 else 1))) (by rw [if_pos (show σ (64 + 53 * k + (10 * d + p)) = 10 by have hz : sgn σ k d p = 10 := (by omega); exact hz)]) ?_)
                                          exact mg221
                                        · skip
                                          have h225 : ¬ (10 ≤ (sgn σ k d p)) := fun q => h225 ((nI_leI (by omega) (by omega)).mpr q)
                                          refine lv_iconst (v := nI 1) hx hb dL_isSo_228 (by decide) ?_
                                          refine lv_goto (tgt := 233) hx hb dL_isSo_229 (by decide) ?_
                                          refine lv_topi (nm_r (e' := (nI (if σ (64 + 53 * k + (10 * d + p)) = 10 then 0 else 1))) (by rw [if_neg (show ¬ σ (64 + 53 * k + (10 * d + p)) = 10 by have hz : ¬ sgn σ k d p = 10 := (by omega); exact hz)]) ?_)
                                          exact mg221
                                  exact loop194 11 0 sg (hsg) (by omega) (by omega) _ (lv_sub hl [5, 6, 7, 8, 9, 10, 11, 12, 13, 3, 14, 2, 1, 15, 16, 0] rfl) _ _ hP hD hS
                                refine lv_iload hx hb dL_isSo_166 (lv_at hl 2 rfl) ?_
                                refine lv_if_lt (tgt := 187) hx hb dL_isSo_168 (by decide) (fun h168 => ?_) (fun h168 => ?_)
                                · skip
                                  have h168 : eO σ k d = 60 := (zc_lt (by omega)).mp h168
                                  refine lv_iconst (v := nI 0) hx hb dL_isSo_187 (by decide) ?_
                                  refine lv_topi (nm_r (e' := (nI (if agF σ (eO σ k d) = 1 then 1 else 0))) (by rw [h168, agF_60]; rfl) ?_)
                                  exact mg166
                                · skip
                                  have h168 : ¬ (eO σ k d = 60) := fun q => h168 ((zc_lt (by omega)).mpr q)
                                  refine lv_aload_n hx hb dL_isSo_171 rfl (lv_at hl 4 rfl) ?_
                                  refine lv_iconst (v := nI 4) hx hb dL_isSo_172 (by decide) ?_
                                  refine va_iald hx hb hG.1 hP 0 0 rfl rfl (vp_in_nI (n := 4) (N := 5) (by omega) (by omega)) dL_isSo_173 ?_
                                  refine lv_topi (nm_r (e' := nI (agM σ)) (by rw [nI_clamp (by omega)]; exact if_pos rfl) ?_)
                                  refine lv_iload hx hb dL_isSo_174 (lv_at hl 2 rfl) ?_
                                  refine lv_topi (nm_r (e' := (nI (eO σ k d))) (zc_n h168) ?_)
                                  refine lv_ishr hx hb dL_isSo_176 ?_
                                  refine lv_iconst (v := nI 1) hx hb dL_isSo_177 (by decide) ?_
                                  refine lv_iand hx hb dL_isSo_178 ?_
                                  refine lv_topi (nm_r (e' := (nI (agF σ (eO σ k d)))) (by rw [b_get _ (agM_lt hO) _ (by omega), agM_bt hO (by omega), agF_at (by omega)]) ?_)
                                  refine lv_iconst (v := nI 1) hx hb dL_isSo_179 (by decide) ?_
                                  refine lv_icmp_ne (tgt := 187) hx hb dL_isSo_180 (by decide) (fun h180 => ?_) (fun h180 => ?_)
                                  · skip
                                    have h180 : ¬ ((agF σ (eO σ k d)) = 1) := fun q => h180 ((nI_eq (by omega) (by omega)).mpr q)
                                    refine lv_iconst (v := nI 0) hx hb dL_isSo_187 (by decide) ?_
                                    refine lv_topi (nm_r (e' := (nI (if agF σ (eO σ k d) = 1 then 1 else 0))) (by rw [if_neg h180]) ?_)
                                    exact mg166
                                  · skip
                                    have h180 : (agF σ (eO σ k d)) = 1 := (nI_eq (by omega) (by omega)).mp h180
                                    refine lv_iconst (v := nI 1) hx hb dL_isSo_183 (by decide) ?_
                                    refine lv_goto (tgt := 188) hx hb dL_isSo_184 (by decide) ?_
                                    refine lv_topi (nm_r (e' := (nI (if agF σ (eO σ k d) = 1 then 1 else 0))) (by rw [if_pos h180]) ?_)
                                    exact mg166
                              refine lv_iload hx hb dL_isSo_151 (lv_at hl 1 rfl) ?_
                              refine lv_if_lt (tgt := 160) hx hb dL_isSo_153 (by decide) (fun h153 => ?_) (fun h153 => ?_)
                              · skip
                                have h153 : eO σ k d = 60 := (zc_lt (by omega)).mp h153
                                refine lv_iconst (v := nI 0) hx hb dL_isSo_160 (by decide) ?_
                                refine lv_topi (nm_r (e' := (nI (if eO σ k d = 60 then 0 else 1))) (by rw [if_pos h153]) ?_)
                                exact mg151
                              · skip
                                have h153 : ¬ (eO σ k d = 60) := fun q => h153 ((zc_lt (by omega)).mpr q)
                                refine lv_iconst (v := nI 1) hx hb dL_isSo_156 (by decide) ?_
                                refine lv_goto (tgt := 161) hx hb dL_isSo_157 (by decide) ?_
                                refine lv_topi (nm_r (e' := (nI (if eO σ k d = 60 then 0 else 1))) (by rw [if_neg h153]) ?_)
                                exact mg151
                    exact loop108 5 0 0 0 0 (rfl) (rfl) (rfl) (by omega) (by omega) _ (lv_sub hl [4, 5, 6, 7, 8, 9, 10, 11, 12, 13, 14, 3, 2, 1, 0] rfl) _ _ hP hD hS
            exact loop84 (nS σ + 1) 0 0 0 0 f (rfl) (rfl) (rfl) (by omega) (by omega) _ (lv_sub hl [6, 7, 8, 9, 10, 5, 4, 3, 2, 1, 0] rfl) _ _ hP hD hS
