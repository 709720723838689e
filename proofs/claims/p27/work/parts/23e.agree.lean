theorem eL_ge {N : Nat} {σ : Nat → Nat} (hO : Ok N σ) (hM : Sml σ) {e : Nat} : 0 ≤ eL σ e ↔ e < nE σ := by
  by_cases q : e < nE σ
  · rw [eL_in q]
    have := its_10 hO hM q
    exact ⟨fun _ => q, fun _ => nI_pos' (by omega)⟩
  · rw [eL_out q]
    exact ⟨fun h => absurd h (by decide), fun h => absurd h q⟩
set_option maxHeartbeats 8000000 in
set_option maxRecDepth 100000 in
theorem ac_agree {pr : Program} {l : Launch} {en : Env} {st : State} {mi : MethodId} {ar : Array Value} {bl : List Frame} {me : Method} {cd : Code} {Q : State → Prop} {G : zG} {q : Nat → Nat} {ad : Nat → Nat → Nat} {σ : Nat → Nat} {T : Nat → Nat → Nat} {o n : Nat} {f : Nat → Int32} {x : Nat → Nat} {len : Nat} {N : Nat} {A0 : Nat → Prop} {H : Heap} {locs : List Loc} {ls : Array Slot} {e : Nat} (C0 : AC pr st mi ar cd G) (hJ : Jv N σ o n) (hN : N + 1 < 100000) (hes : e < nE σ ∨ (nE σ = 0 ∧ e = 0)) (hP : va_P G.1 vwCl ((wL G q σ) ++ wX G ad σ T o n f x len) H) (hD : va_D A0 ((wL G q σ) ++ wX G ad σ T o n f x len)) (hS : va_S A0 st.heap H locs) (hl : lv_has ls 43 [(0, .ref (ad 0 0)), (1, .ref (q 0)), (2, .ref (q 1)), (3, .ref (q 2)), (4, .ref (q 3)), (13, .int (nI e)), (14, .int (eL σ e))]) (hret : AR pr l en st mi ar bl me cd Q G q ad x len A0 (N + 1)) : W pr l en (zRm 7 176) st mi ar bl me cd H locs 0 0 Q (F0 mi 677 ls []) := by
  obtain ⟨hx, hb, hml, hown, hts, hG⟩ := id C0
  obtain ⟨hO, hC, ho, hn, hM⟩ := id hJ
  have hc := hO.c
  have hs := hO.lS
  have hne := hO.lE
  have hM6 := hM.s
  have hM7 := hM.e
  have hM4 := hM.r
  have hM1 := hM.1
  have hM2 := hM.2
  have hNN := hO.N
  have hg2 := hO.2.2.1
  have hg3 := hO.2.2.2.1
  refine lv_iload hx hb dL_acts_677 (lv_at hl 6 rfl) ?_
  refine lv_if_lt (tgt := 694) hx hb dL_acts_679 (by decide) (fun h679 => ?_) (fun h679 => ?_)
  · skip
    have h679 : nE σ ≤ e := (eL_lt hO hM).mp h679
    refine lv_aload_n hx hb dL_acts_694 rfl (lv_at hl 0 rfl) ?_
    refine lv_iload hx hb dL_acts_695 (lv_at hl 5 rfl) ?_
    refine zwrR (G := G) (w1 := (wL G q σ)) (wc := wX G ad σ T o n f x len) (wc' := wX G ad σ T o n f x len) (va_runV (As := [.int (nI e)]) (rest := []) ⟨hx, hb, hml, hown, hts⟩ (kX4_agree_inv l G ad σ T o n f x len (nI e) (hO) (by omega) (by omega) (fun z => absurd ((nI_ltI (by omega) (by omega)).mp z.2) (by omega)) (zD_any (zD_r hD))) (cwV 1 hts gL_acts_X4_agree rfl rfl rfl (by decide +kernel) ⟨Nat.le_of_ble_eq_true rfl, Nat.le_of_ble_eq_true rfl⟩) (zPreV hG (va_recv (q0 := 0) (ci := 4) hG.1 (zP_r hP) rfl rfl) (zP_r hP)) rfl rfl hl.1 rfl (lv_room (Nat.le_of_ble_eq_true rfl)) dL_acts_697 ⟨Nat.le_of_ble_eq_true rfl, Nat.le_of_ble_eq_true rfl⟩) hP hD hS (wX_map ..) (fun H locs hP hD hS => ?_)
    refine lv_iload hx hb dL_acts_700 (lv_at hl 6 rfl) ?_
    refine lv_if_ge (tgt := 709) hx hb dL_acts_702 (by decide) (fun h702 => ?_) (fun h702 => ?_)
    · skip
      have h702 : e < nE σ := (eL_ge hO hM).mp h702
      exfalso; omega
    · skip
      have h702 : ¬ (e < nE σ) := fun q => h702 ((eL_ge hO hM).mpr q)
      refine lv_iconst (v := (-1)) hx hb dL_acts_705 (by decide) ?_
      refine lv_goto (tgt := 711) hx hb dL_acts_706 (by decide) ?_
      refine lv_icmp_ne (tgt := 718) hx hb dL_acts_711 (by decide) (fun h711 => ?_) (fun h711 => ?_)
      · skip
        exact absurd rfl h711
      · skip
        refine lv_iconst (v := nI 1) hx hb dL_acts_714 (by decide) ?_
        refine lv_goto (tgt := 719) hx hb dL_acts_715 (by decide) ?_
        exact hret _ _ _ _ _ _ _ _ _ dL_acts_719 hS (⟨hO.up hN, hC, ho, hn, hM⟩) hP
  · skip
    have h679 : ¬ (nE σ ≤ e) := fun q => h679 ((eL_lt hO hM).mpr q)
    have hen : e < nE σ := by omega
    have h10 := its_10 hO hM hen
    have hff := its_f hO hM hen
    have hag01 := hO.ag (show e < 60 by omega)
    have hql := qrl_le σ e
    rw [eL_in hen] at hl
    refine lv_aload_n hx hb dL_acts_682 rfl (lv_at hl 1 rfl) ?_
    refine lv_aload_n hx hb dL_acts_683 rfl (lv_at hl 3 rfl) ?_
    refine lv_aload hx hb dL_acts_684 (lv_at hl 4 rfl) ?_
    refine lv_iload hx hb dL_acts_686 (lv_at hl 6 rfl) ?_
    refine zrdS (As := [.ref (q 0), .ref (q 2), .ref (q 3), .int (nI (its σ e))]) ⟨hx, hb, hml, hown, hts⟩ (kL_quarrels l G q σ e (hO) (hM) (by omega)) (va_cwS 4 hts gL_acts_L_quarrels rfl rfl rfl (by decide +kernel) ⟨Nat.le_of_ble_eq_true rfl, Nat.le_of_ble_eq_true rfl⟩) hG (zP_l hP) rfl rfl hl.1 dL_acts_688 (Nat.le_of_ble_eq_true rfl) ⟨Nat.le_of_ble_eq_true rfl, Nat.le_of_ble_eq_true rfl⟩ ?_
    have hf688_0 := qrl_le σ (e)
    refine lv_if_le (tgt := 720) hx hb dL_acts_691 (by decide) (fun h691 => ?_) (fun h691 => ?_)
    · skip
      have h691 : (qrl σ e) = 0 := (z_le0 (by omega)).mp h691
      refine lv_aload_n hx hb dL_acts_720 rfl (lv_at hl 1 rfl) ?_
      refine lv_iconst (v := nI 4) hx hb dL_acts_721 (by decide) ?_
      refine va_iald hx hb hG.1 hP 0 0 rfl rfl (vp_in_nI (n := 4) (N := 5) (by omega) (by omega)) dL_acts_722 ?_
      refine lv_topi (nm_r (e' := nI (agM σ)) (by rw [nI_clamp (by omega)]; exact if_pos rfl) ?_)
      refine lv_iload hx hb dL_acts_723 (lv_at hl 5 rfl) ?_
      refine lv_ishr hx hb dL_acts_725 ?_
      refine lv_iconst (v := nI 1) hx hb dL_acts_726 (by decide) ?_
      refine lv_iand hx hb dL_acts_727 ?_
      refine lv_topi (nm_r (e' := (nI (agn σ e))) (by rw [b_get _ (agM_lt hO) e (by omega), agM_bt hO (by omega)]) ?_)
      refine lv_istore (lv' := [(28, .int (nI (agn σ e))), (0, .ref (ad 0 0)), (1, .ref (q 0)), (2, .ref (q 1)), (3, .ref (q 2)), (4, .ref (q 3)), (13, .int (nI e)), (14, .int (nI (its σ e)))]) hx hb dL_acts_728 hl (by decide) rfl (fun ls hl => ?_)
      refine lv_aload_n hx hb dL_acts_730 rfl (lv_at hl 2 rfl) ?_
      refine lv_iconst (v := nI 4) hx hb dL_acts_731 (by decide) ?_
      refine lv_dup2_11 hx hb dL_acts_732 rfl rfl ?_
      refine va_iald hx hb hG.1 hP 0 0 rfl rfl (vp_in_nI (n := 4) (N := 5) (by omega) (by omega)) dL_acts_733 ?_
      refine lv_topi (nm_r (e' := nI (agM σ)) (by rw [nI_clamp (by omega)]; exact if_pos rfl) ?_)
      refine lv_iconst (v := nI 1) hx hb dL_acts_734 (by decide) ?_
      refine lv_iload hx hb dL_acts_735 (lv_at hl 6 rfl) ?_
      refine lv_ishl hx hb dL_acts_737 ?_
      refine lv_topi (nm_r (e' := (nI (2 ^ e))) (b_one e (by omega)) ?_)
      refine lv_ior hx hb dL_acts_738 ?_
      refine lv_topi (nm_r (e' := (nI (agM (su σ (4 + e) 1)))) (agM_or hO (by omega)) ?_)
      refine va_iast hx hb hG.1 hP hD hS 0 0 rfl rfl (vp_in_nI (n := 4) (N := 5) (by omega) (by omega)) dL_acts_739 (fun H locs hP hD hS => ?_)
      rw [nI_clamp (show 4 < 2 ^ 31 by omega)] at hP hD
      have hP : va_P G.1 vwCl ((wL0 G q (upd (gF σ) 4 (nI (agM (su σ (4 + e) 1)))) (rF σ) (aF σ) (bF σ)) ++ wX G ad σ T o n f x len) H := hP
      have hD : va_D A0 ((wL0 G q (upd (gF σ) 4 (nI (agM (su σ (4 + e) 1)))) (rF σ) (aF σ) (bF σ)) ++ wX G ad σ T o n f x len) := hD
      have hP : va_P G.1 vwCl ((wL G q (su σ (4 + e) 1)) ++ wX G ad σ T o n f x len) H := wL_x (gF_ag σ (by omega) 1) (lo_r σ (by omega) 1) (lo_a σ (by omega) 1) (lo_b σ (by omega) 1) hP
      have hD : va_D A0 ((wL G q (su σ (4 + e) 1)) ++ wX G ad σ T o n f x len) := wL_d hD
      refine lv_aload_n hx hb dL_acts_740 rfl (lv_at hl 1 rfl) ?_
      refine lv_iload hx hb dL_acts_741 (lv_at hl 6 rfl) ?_
      refine zwrR (G := G) (w1 := (wL G q (su σ (4 + e) 1))) (wc := wX G ad σ T o n f x len) (wc' := wX G ad (su σ (4 + e) 1) (upT T ((o + n) % 5) σ) (nO o n) (nN n) f x len) (va_runV (As := [.int (nI e)]) (rest := []) ⟨hx, hb, hml, hown, hts⟩ (kX4_agree_ok l G ad σ T o n f x len e (hO) (by omega) (by omega) (by omega) (h691) (zD_any (zD_r hD))) (cwV 1 hts gL_acts_X4_agree rfl rfl rfl (by decide +kernel) ⟨Nat.le_of_ble_eq_true rfl, Nat.le_of_ble_eq_true rfl⟩) (zPreV hG (va_recv (q0 := 0) (ci := 4) hG.1 (zP_r hP) rfl rfl) (zP_r hP)) rfl rfl hl.1 rfl (lv_room (Nat.le_of_ble_eq_true rfl)) dL_acts_743 ⟨Nat.le_of_ble_eq_true rfl, Nat.le_of_ble_eq_true rfl⟩) hP hD hS (wX_map ..) (fun H locs hP hD hS => ?_)
      refine lv_iload hx hb dL_acts_746 (lv_at hl 0 rfl) ?_
      refine lv_icmp_ne (tgt := 755) hx hb dL_acts_748 (by decide) (fun h748 => ?_) (fun h748 => ?_)
      · skip
        exact absurd rfl h748
      · skip
        refine lv_iconst (v := nI 1) hx hb dL_acts_751 (by decide) ?_
        refine lv_goto (tgt := 756) hx hb dL_acts_752 (by decide) ?_
        exact hret _ _ _ _ _ _ _ _ _ dL_acts_756 hS (⟨(hO.su_ag (by omega) (by omega)).up hN, cln_ag hO hC hen (fun _ => h691), jO ho, jN hn, hM.su (by omega)⟩) hP
    · skip
      have h691 : ¬ ((qrl σ e) = 0) := fun q => h691 ((z_le0 (by omega)).mpr q)
      have h691 : 0 < (qrl σ e) := Nat.pos_of_ne_zero h691
      refine lv_aload_n hx hb dL_acts_694 rfl (lv_at hl 0 rfl) ?_
      refine lv_iload hx hb dL_acts_695 (lv_at hl 5 rfl) ?_
      refine zwrR (G := G) (w1 := (wL G q σ)) (wc := wX G ad σ T o n f x len) (wc' := wX G ad σ T o n f x len) (va_runV (As := [.int (nI e)]) (rest := []) ⟨hx, hb, hml, hown, hts⟩ (kX4_agree_no l G ad σ T o n f x len e (hO) (by omega) (by omega) (by omega) (h691) (zD_any (zD_r hD))) (cwV 1 hts gL_acts_X4_agree rfl rfl rfl (by decide +kernel) ⟨Nat.le_of_ble_eq_true rfl, Nat.le_of_ble_eq_true rfl⟩) (zPreV hG (va_recv (q0 := 0) (ci := 4) hG.1 (zP_r hP) rfl rfl) (zP_r hP)) rfl rfl hl.1 rfl (lv_room (Nat.le_of_ble_eq_true rfl)) dL_acts_697 ⟨Nat.le_of_ble_eq_true rfl, Nat.le_of_ble_eq_true rfl⟩) hP hD hS (wX_map ..) (fun H locs hP hD hS => ?_)
      refine lv_iload hx hb dL_acts_700 (lv_at hl 6 rfl) ?_
      refine lv_if_ge (tgt := 709) hx hb dL_acts_702 (by decide) (fun h702 => ?_) (fun h702 => ?_)
      · skip
        have h702 : True := (z_ge0 (by omega)).mp h702
        refine lv_bipush (v := (-2)) hx hb dL_acts_709 (by decide) ?_
        refine lv_icmp_ne (tgt := 718) hx hb dL_acts_711 (by decide) (fun h711 => ?_) (fun h711 => ?_)
        · skip
          exact absurd rfl h711
        · skip
          refine lv_iconst (v := nI 1) hx hb dL_acts_714 (by decide) ?_
          refine lv_goto (tgt := 719) hx hb dL_acts_715 (by decide) ?_
          exact hret _ _ _ _ _ _ _ _ _ dL_acts_719 hS (⟨hO.up hN, hC, ho, hn, hM⟩) hP
      · skip
        have h702 : ¬ (True) := fun q => h702 ((z_ge0 (by omega)).mpr q)
        exact absurd trivial h702
set_option maxHeartbeats 8000000 in
set_option maxRecDepth 100000 in
theorem ac_release {pr : Program} {l : Launch} {en : Env} {st : State} {mi : MethodId} {ar : Array Value} {bl : List Frame} {me : Method} {cd : Code} {Q : State → Prop} {G : zG} {q : Nat → Nat} {ad : Nat → Nat → Nat} {σ : Nat → Nat} {T : Nat → Nat → Nat} {o n : Nat} {f : Nat → Int32} {x : Nat → Nat} {len : Nat} {N : Nat} {A0 : Nat → Prop} {H : Heap} {locs : List Loc} {ls : Array Slot} {v e : Nat} (C0 : AC pr st mi ar cd G) (hJ : Jv N σ o n) (hN : N + 1 < 100000) (hv : v < 10000000) (hes : e < nE σ ∨ (nE σ = 0 ∧ e = 0)) (hP : va_P G.1 vwCl ((wL G q σ) ++ wX G ad σ T o n f x len) H) (hD : va_D A0 ((wL G q σ) ++ wX G ad σ T o n f x len)) (hS : va_S A0 st.heap H locs) (hl : lv_has ls 43 [(0, .ref (ad 0 0)), (1, .ref (q 0)), (2, .ref (q 1)), (3, .ref (q 2)), (4, .ref (q 3)), (6, .int (nI v)), (12, .int (nI (nE σ))), (13, .int (nI e)), (14, .int (eL σ e))]) (hret : AR pr l en st mi ar bl me cd Q G q ad x len A0 (N + 1)) : W pr l en (zRm 7 176) st mi ar bl me cd H locs 0 0 Q (F0 mi 757 ls []) := by
  obtain ⟨hx, hb, hml, hown, hts, hG⟩ := id C0
  obtain ⟨hO, hC, ho, hn, hM⟩ := id hJ
  have hc := hO.c
  have hs := hO.lS
  have hne := hO.lE
  have hM6 := hM.s
  have hM7 := hM.e
  have hM4 := hM.r
  have hM1 := hM.1
  have hM2 := hM.2
  have hNN := hO.N
  have hg2 := hO.2.2.1
  have hg3 := hO.2.2.2.1
  refine lv_iload hx hb dL_acts_757 (lv_at hl 8 rfl) ?_
  refine lv_if_lt (tgt := 780) hx hb dL_acts_759 (by decide) (fun h759 => ?_) (fun h759 => ?_)
  · skip
    have h759 : nE σ ≤ e := (eL_lt hO hM).mp h759
    refine lv_aload_n hx hb dL_acts_780 rfl (lv_at hl 0 rfl) ?_
    refine lv_iload hx hb dL_acts_781 (lv_at hl 8 rfl) ?_
    refine lv_if_ge (tgt := 790) hx hb dL_acts_783 (by decide) (fun h783 => ?_) (fun h783 => ?_)
    · skip
      have h783 : e < nE σ := (eL_ge hO hM).mp h783
      exfalso; omega
    · skip
      have h783 : ¬ (e < nE σ) := fun q => h783 ((eL_ge hO hM).mpr q)
      refine lv_iconst (v := nI 0) hx hb dL_acts_786 (by decide) ?_
      refine lv_goto (tgt := 804) hx hb dL_acts_787 (by decide) ?_
      refine zwrR (G := G) (w1 := (wL G q σ)) (wc := wX G ad σ T o n f x len) (wc' := wX G ad σ T o n f x len) (va_runV (As := [.int (nI 0)]) (rest := []) ⟨hx, hb, hml, hown, hts⟩ (kX4_release_inv l G ad σ T o n f x len (nI 0) (hO) (by omega) (by omega) (fun z => absurd ((nI_ltI (by omega) (by omega)).mp z.2) (by omega)) (zD_any (zD_r hD))) (cwV 1 hts gL_acts_X4_release rfl rfl rfl (by decide +kernel) ⟨Nat.le_of_ble_eq_true rfl, Nat.le_of_ble_eq_true rfl⟩) (zPreV hG (va_recv (q0 := 0) (ci := 4) hG.1 (zP_r hP) rfl rfl) (zP_r hP)) rfl rfl hl.1 rfl (lv_room (Nat.le_of_ble_eq_true rfl)) dL_acts_804 ⟨Nat.le_of_ble_eq_true rfl, Nat.le_of_ble_eq_true rfl⟩) hP hD hS (wX_map ..) (fun H locs hP hD hS => ?_)
      refine lv_iload hx hb dL_acts_807 (lv_at hl 8 rfl) ?_
      refine lv_if_lt (tgt := 819) hx hb dL_acts_809 (by decide) (fun h809 => ?_) (fun h809 => ?_)
      · skip
        have h809 : nE σ ≤ e := (eL_lt hO hM).mp h809
        refine lv_iconst (v := (-1)) hx hb dL_acts_819 (by decide) ?_
        refine lv_goto (tgt := 825) hx hb dL_acts_820 (by decide) ?_
        refine lv_icmp_ne (tgt := 832) hx hb dL_acts_825 (by decide) (fun h825 => ?_) (fun h825 => ?_)
        · skip
          first | exact absurd rfl h825 | (exfalso; omega)
        · skip
          refine lv_iconst (v := nI 1) hx hb dL_acts_828 (by decide) ?_
          refine lv_goto (tgt := 833) hx hb dL_acts_829 (by decide) ?_
          exact hret _ _ _ _ _ _ _ _ _ dL_acts_833 hS (⟨hO.up hN, hC, ho, hn, hM⟩) hP
      · skip
        have h809 : ¬ (nE σ ≤ e) := fun q => h809 ((eL_lt hO hM).mpr q)
        exfalso; omega
  · skip
    have h759 : ¬ (nE σ ≤ e) := fun q => h759 ((eL_lt hO hM).mpr q)
    have hen : e < nE σ := by omega
    have h10 := its_10 hO hM hen
    have hff := its_f hO hM hen
    have hag01 := hO.ag (show e < 60 by omega)
    have hql := qrl_le σ e
    rw [eL_in hen] at hl
    refine lv_aload_n hx hb dL_acts_762 rfl (lv_at hl 1 rfl) ?_
    refine lv_iconst (v := nI 4) hx hb dL_acts_763 (by decide) ?_
    refine va_iald hx hb hG.1 hP 0 0 rfl rfl (vp_in_nI (n := 4) (N := 5) (by omega) (by omega)) dL_acts_764 ?_
    refine lv_topi (nm_r (e' := nI (agM σ)) (by rw [nI_clamp (by omega)]; exact if_pos rfl) ?_)
    refine lv_iload hx hb dL_acts_765 (lv_at hl 7 rfl) ?_
    refine lv_ishr hx hb dL_acts_767 ?_
    refine lv_iconst (v := nI 1) hx hb dL_acts_768 (by decide) ?_
    refine lv_iand hx hb dL_acts_769 ?_
    refine lv_topi (nm_r (e' := (nI (agn σ e))) (by rw [b_get _ (agM_lt hO) e (by omega), agM_bt hO (by omega)]) ?_)
    refine lv_if_eq (tgt := 780) hx hb dL_acts_770 (by decide) (fun h770 => ?_) (fun h770 => ?_)
    · skip
      have h770 : (agn σ e) = 0 := (z_eq0 (by omega)).mp h770
      refine lv_aload_n hx hb dL_acts_780 rfl (lv_at hl 0 rfl) ?_
      refine lv_iload hx hb dL_acts_781 (lv_at hl 8 rfl) ?_
      refine lv_if_ge (tgt := 790) hx hb dL_acts_783 (by decide) (fun h783 => ?_) (fun h783 => ?_)
      · skip
        have h783 : True := (z_ge0 (by omega)).mp h783
        refine lv_iload hx hb dL_acts_790 (lv_at hl 5 rfl) ?_
        refine lv_iconst (v := nI 3) hx hb dL_acts_792 (by decide) ?_
        refine lv_irem hx hb dL_acts_793 (nI_ne0 (by omega) (by omega)) ?_
        refine lv_topi (nm_r (e' := nI (v % 3)) (pk_rem (by omega) (by omega) (by omega)) ?_)
        refine lv_if_le (tgt := 802) hx hb dL_acts_794 (by decide) (fun h794 => ?_) (fun h794 => ?_)
        · skip
          have h794 : (v % 3) = 0 := (z_le0 (by omega)).mp h794
          refine lv_iload hx hb dL_acts_802 (lv_at hl 7 rfl) ?_
          refine zwrR (G := G) (w1 := (wL G q σ)) (wc := wX G ad σ T o n f x len) (wc' := wX G ad σ T o n f x len) (va_runV (As := [.int (nI e)]) (rest := []) ⟨hx, hb, hml, hown, hts⟩ (kX4_release_no l G ad σ T o n f x len e (hO) (by omega) (by omega) (by omega) (by omega) (zD_any (zD_r hD))) (cwV 1 hts gL_acts_X4_release rfl rfl rfl (by decide +kernel) ⟨Nat.le_of_ble_eq_true rfl, Nat.le_of_ble_eq_true rfl⟩) (zPreV hG (va_recv (q0 := 0) (ci := 4) hG.1 (zP_r hP) rfl rfl) (zP_r hP)) rfl rfl hl.1 rfl (lv_room (Nat.le_of_ble_eq_true rfl)) dL_acts_804 ⟨Nat.le_of_ble_eq_true rfl, Nat.le_of_ble_eq_true rfl⟩) hP hD hS (wX_map ..) (fun H locs hP hD hS => ?_)
          refine lv_iload hx hb dL_acts_807 (lv_at hl 8 rfl) ?_
          refine lv_if_lt (tgt := 819) hx hb dL_acts_809 (by decide) (fun h809 => ?_) (fun h809 => ?_)
          · skip
            have h809 : False := (z_lt0 (by omega)).mp h809
            exfalso; omega
          · skip
            have h809 : ¬ (False) := fun q => h809 ((z_lt0 (by omega)).mpr q)
            refine lv_iload hx hb dL_acts_812 (lv_at hl 5 rfl) ?_
            refine lv_iconst (v := nI 3) hx hb dL_acts_814 (by decide) ?_
            refine lv_irem hx hb dL_acts_815 (nI_ne0 (by omega) (by omega)) ?_
            refine lv_topi (nm_r (e' := nI (v % 3)) (pk_rem (by omega) (by omega) (by omega)) ?_)
            refine lv_if_le (tgt := 823) hx hb dL_acts_816 (by decide) (fun h816 => ?_) (fun h816 => ?_)
            · skip
              have h816 : (v % 3) = 0 := (z_le0 (by omega)).mp h816
              refine lv_bipush (v := (-2)) hx hb dL_acts_823 (by decide) ?_
              refine lv_icmp_ne (tgt := 832) hx hb dL_acts_825 (by decide) (fun h825 => ?_) (fun h825 => ?_)
              · skip
                first | exact absurd rfl h825 | (exfalso; omega)
              · skip
                refine lv_iconst (v := nI 1) hx hb dL_acts_828 (by decide) ?_
                refine lv_goto (tgt := 833) hx hb dL_acts_829 (by decide) ?_
                exact hret _ _ _ _ _ _ _ _ _ dL_acts_833 hS (⟨hO.up hN, hC, ho, hn, hM⟩) hP
            · skip
              have h816 : ¬ ((v % 3) = 0) := fun q => h816 ((z_le0 (by omega)).mpr q)
              have h816 : 0 < (v % 3) := Nat.pos_of_ne_zero h816
              refine lv_iconst (v := (-1)) hx hb dL_acts_819 (by decide) ?_
              refine lv_goto (tgt := 825) hx hb dL_acts_820 (by decide) ?_
              refine lv_icmp_ne (tgt := 832) hx hb dL_acts_825 (by decide) (fun h825 => ?_) (fun h825 => ?_)
              · skip
                first | exact absurd rfl h825 | (exfalso; omega)
              · skip
                refine lv_iconst (v := nI 1) hx hb dL_acts_828 (by decide) ?_
                refine lv_goto (tgt := 833) hx hb dL_acts_829 (by decide) ?_
                exact hret _ _ _ _ _ _ _ _ _ dL_acts_833 hS (⟨hO.up hN, hC, ho, hn, hM⟩) hP
        · skip
          have h794 : ¬ ((v % 3) = 0) := fun q => h794 ((z_le0 (by omega)).mpr q)
          have h794 : 0 < (v % 3) := Nat.pos_of_ne_zero h794
          refine lv_iload hx hb dL_acts_797 (lv_at hl 6 rfl) ?_
          refine lv_goto (tgt := 804) hx hb dL_acts_799 (by decide) ?_
          refine zwrR (G := G) (w1 := (wL G q σ)) (wc := wX G ad σ T o n f x len) (wc' := wX G ad σ T o n f x len) (va_runV (As := [.int (nI (nE σ))]) (rest := []) ⟨hx, hb, hml, hown, hts⟩ (kX4_release_inv l G ad σ T o n f x len (nI (nE σ)) (hO) (by omega) (by omega) (fun z => absurd ((nI_ltI (by omega) (by omega)).mp z.2) (by omega)) (zD_any (zD_r hD))) (cwV 1 hts gL_acts_X4_release rfl rfl rfl (by decide +kernel) ⟨Nat.le_of_ble_eq_true rfl, Nat.le_of_ble_eq_true rfl⟩) (zPreV hG (va_recv (q0 := 0) (ci := 4) hG.1 (zP_r hP) rfl rfl) (zP_r hP)) rfl rfl hl.1 rfl (lv_room (Nat.le_of_ble_eq_true rfl)) dL_acts_804 ⟨Nat.le_of_ble_eq_true rfl, Nat.le_of_ble_eq_true rfl⟩) hP hD hS (wX_map ..) (fun H locs hP hD hS => ?_)
          refine lv_iload hx hb dL_acts_807 (lv_at hl 8 rfl) ?_
          refine lv_if_lt (tgt := 819) hx hb dL_acts_809 (by decide) (fun h809 => ?_) (fun h809 => ?_)
          · skip
            have h809 : False := (z_lt0 (by omega)).mp h809
            exfalso; omega
          · skip
            have h809 : ¬ (False) := fun q => h809 ((z_lt0 (by omega)).mpr q)
            refine lv_iload hx hb dL_acts_812 (lv_at hl 5 rfl) ?_
            refine lv_iconst (v := nI 3) hx hb dL_acts_814 (by decide) ?_
            refine lv_irem hx hb dL_acts_815 (nI_ne0 (by omega) (by omega)) ?_
            refine lv_topi (nm_r (e' := nI (v % 3)) (pk_rem (by omega) (by omega) (by omega)) ?_)
            refine lv_if_le (tgt := 823) hx hb dL_acts_816 (by decide) (fun h816 => ?_) (fun h816 => ?_)
            · skip
              have h816 : (v % 3) = 0 := (z_le0 (by omega)).mp h816
              refine lv_bipush (v := (-2)) hx hb dL_acts_823 (by decide) ?_
              refine lv_icmp_ne (tgt := 832) hx hb dL_acts_825 (by decide) (fun h825 => ?_) (fun h825 => ?_)
              · skip
                first | exact absurd rfl h825 | (exfalso; omega)
              · skip
                refine lv_iconst (v := nI 1) hx hb dL_acts_828 (by decide) ?_
                refine lv_goto (tgt := 833) hx hb dL_acts_829 (by decide) ?_
                exact hret _ _ _ _ _ _ _ _ _ dL_acts_833 hS (⟨hO.up hN, hC, ho, hn, hM⟩) hP
            · skip
              have h816 : ¬ ((v % 3) = 0) := fun q => h816 ((z_le0 (by omega)).mpr q)
              have h816 : 0 < (v % 3) := Nat.pos_of_ne_zero h816
              refine lv_iconst (v := (-1)) hx hb dL_acts_819 (by decide) ?_
              refine lv_goto (tgt := 825) hx hb dL_acts_820 (by decide) ?_
              refine lv_icmp_ne (tgt := 832) hx hb dL_acts_825 (by decide) (fun h825 => ?_) (fun h825 => ?_)
              · skip
                first | exact absurd rfl h825 | (exfalso; omega)
              · skip
                refine lv_iconst (v := nI 1) hx hb dL_acts_828 (by decide) ?_
                refine lv_goto (tgt := 833) hx hb dL_acts_829 (by decide) ?_
                exact hret _ _ _ _ _ _ _ _ _ dL_acts_833 hS (⟨hO.up hN, hC, ho, hn, hM⟩) hP
      · skip
        have h783 : ¬ (True) := fun q => h783 ((z_ge0 (by omega)).mpr q)
        exact absurd trivial h783
    · skip
      have h770 : ¬ ((agn σ e) = 0) := fun q => h770 ((z_eq0 (by omega)).mpr q)
      have h770 : 0 < (agn σ e) := Nat.pos_of_ne_zero h770
      refine lv_iload hx hb dL_acts_773 (lv_at hl 5 rfl) ?_
      refine lv_iconst (v := nI 3) hx hb dL_acts_775 (by decide) ?_
      refine lv_irem hx hb dL_acts_776 (nI_ne0 (by omega) (by omega)) ?_
      refine lv_topi (nm_r (e' := nI (v % 3)) (pk_rem (by omega) (by omega) (by omega)) ?_)
      refine lv_if_le (tgt := 834) hx hb dL_acts_777 (by decide) (fun h777 => ?_) (fun h777 => ?_)
      · skip
        have h777 : (v % 3) = 0 := (z_le0 (by omega)).mp h777
        have hag1 : agn σ e = 1 := by omega
        have hup := agM_sub (show e < 7 by omega) hag1
        have he7 := b_e7 e (by omega)
        refine lv_aload_n hx hb dL_acts_834 rfl (lv_at hl 1 rfl) ?_
        refine lv_iconst (v := nI 4) hx hb dL_acts_835 (by decide) ?_
        refine lv_dup2_11 hx hb dL_acts_836 rfl rfl ?_
        refine va_iald hx hb hG.1 hP 0 0 rfl rfl (vp_in_nI (n := 4) (N := 5) (by omega) (by omega)) dL_acts_837 ?_
        refine lv_topi (nm_r (e' := nI (agM σ)) (by rw [nI_clamp (by omega)]; exact if_pos rfl) ?_)
        refine lv_iconst (v := nI 1) hx hb dL_acts_838 (by decide) ?_
        refine lv_iload hx hb dL_acts_839 (lv_at hl 7 rfl) ?_
        refine lv_ishl hx hb dL_acts_841 ?_
        refine lv_topi (nm_r (e' := (nI (2 ^ e))) (b_one e (by omega)) ?_)
        refine lv_isub hx hb dL_acts_842 ?_
        refine lv_topi (nm_r (e' := nI ((agM σ) - (2 ^ e))) (pk_sub (by omega)) ?_)
        refine lv_topi (nm_r (e' := (nI (agM (su σ (4 + e) 0)))) (congrArg nI (by omega)) ?_)
        refine va_iast hx hb hG.1 hP hD hS 0 0 rfl rfl (vp_in_nI (n := 4) (N := 5) (by omega) (by omega)) dL_acts_843 (fun H locs hP hD hS => ?_)
        rw [nI_clamp (show 4 < 2 ^ 31 by omega)] at hP hD
        have hP : va_P G.1 vwCl ((wL0 G q (upd (gF σ) 4 (nI (agM (su σ (4 + e) 0)))) (rF σ) (aF σ) (bF σ)) ++ wX G ad σ T o n f x len) H := hP
        have hD : va_D A0 ((wL0 G q (upd (gF σ) 4 (nI (agM (su σ (4 + e) 0)))) (rF σ) (aF σ) (bF σ)) ++ wX G ad σ T o n f x len) := hD
        have hP : va_P G.1 vwCl ((wL G q (su σ (4 + e) 0)) ++ wX G ad σ T o n f x len) H := wL_x (gF_ag σ (by omega) 0) (lo_r σ (by omega) 0) (lo_a σ (by omega) 0) (lo_b σ (by omega) 0) hP
        have hD : va_D A0 ((wL G q (su σ (4 + e) 0)) ++ wX G ad σ T o n f x len) := wL_d hD
        refine lv_aload_n hx hb dL_acts_844 rfl (lv_at hl 0 rfl) ?_
        refine lv_iload hx hb dL_acts_845 (lv_at hl 7 rfl) ?_
        refine zwrR (G := G) (w1 := (wL G q (su σ (4 + e) 0))) (wc := wX G ad σ T o n f x len) (wc' := wX G ad (su σ (4 + e) 0) (upT T ((o + n) % 5) σ) (nO o n) (nN n) (fun k => nI (blk (su σ (4 + e) 0) (nE (su σ (4 + e) 0)) k)) x len) (va_runV (As := [.int (nI e)]) (rest := []) ⟨hx, hb, hml, hown, hts⟩ (kX4_release_ok l G ad σ T o n f x len e (hO) (by omega) (by omega) (by omega) (hag1) (zD_any (zD_r hD))) (cwV 1 hts gL_acts_X4_release rfl rfl rfl (by decide +kernel) ⟨Nat.le_of_ble_eq_true rfl, Nat.le_of_ble_eq_true rfl⟩) (zPreV hG (va_recv (q0 := 0) (ci := 4) hG.1 (zP_r hP) rfl rfl) (zP_r hP)) rfl rfl hl.1 rfl (lv_room (Nat.le_of_ble_eq_true rfl)) dL_acts_847 ⟨Nat.le_of_ble_eq_true rfl, Nat.le_of_ble_eq_true rfl⟩) hP hD hS (wX_map ..) (fun H locs hP hD hS => ?_)
        refine lv_topi (nm_r (e' := (nI (fnd (su σ (4 + e) 0) (nE (su σ (4 + e) 0))))) (rfl) ?_)
        have hO2 : Ok N (su σ (4 + e) 0) := hO.su_ag (by omega) (by omega)
        refine lv_aload_n hx hb dL_acts_850 rfl (lv_at hl 0 rfl) ?_
        refine lv_bipush (v := nI 7) hx hb dL_acts_851 (by decide) ?_
        refine zwrR (G := G) (w1 := (wL G q (su σ (4 + e) 0))) (wc := wX G ad (su σ (4 + e) 0) (upT T ((o + n) % 5) σ) (nO o n) (nN n) (fun k => nI (blk (su σ (4 + e) 0) (nE (su σ (4 + e) 0)) k)) x len) (wc' := wX G ad (su σ (4 + e) 0) (upT T ((o + n) % 5) σ) (nO o n) (nN n) (fun k => nI (blk (su σ (4 + e) 0) (nE (su σ (4 + e) 0)) k)) x len) (va_runV (As := [.int (nI 7)]) (rest := [.int (nI (fnd (su σ (4 + e) 0) (nE (su σ (4 + e) 0))))]) ⟨hx, hb, hml, hown, hts⟩ (kX4_count_7 l G ad (su σ (4 + e) 0) (upT T ((o + n) % 5) σ) (nO o n) (nN n) (fun k => nI (blk (su σ (4 + e) 0) (nE (su σ (4 + e) 0)) k)) x len (hO2) (jO ho) (jN hn) (zD_any (zD_r hD))) (cwV 1 hts gL_acts_X4_count rfl rfl rfl (by decide +kernel) ⟨Nat.le_of_ble_eq_true rfl, Nat.le_of_ble_eq_true rfl⟩) (zPreV hG (va_recv (q0 := 0) (ci := 4) hG.1 (zP_r hP) rfl rfl) (zP_r hP)) rfl rfl hl.1 rfl (lv_room (Nat.le_of_ble_eq_true rfl)) dL_acts_853 ⟨Nat.le_of_ble_eq_true rfl, Nat.le_of_ble_eq_true rfl⟩) hP hD hS (wX_map ..) (fun H locs hP hD hS => ?_)
        refine lv_topi (nm_r (e' := (nI (fnd (su σ (4 + e) 0) (nE (su σ (4 + e) 0))))) (rfl) ?_)
        refine lv_icmp_ne (tgt := 863) hx hb dL_acts_856 (by decide) (fun h856 => ?_) (fun h856 => ?_)
        · skip
          exact absurd rfl h856
        · skip
          refine lv_iconst (v := nI 1) hx hb dL_acts_859 (by decide) ?_
          refine lv_goto (tgt := 864) hx hb dL_acts_860 (by decide) ?_
          exact hret _ _ _ _ _ _ _ _ _ dL_acts_864 hS (⟨(hO.su_ag (by omega) (by omega)).up hN, cln_ag hO hC hen (fun z => absurd z (by decide)), jO ho, jN hn, hM.su (by omega)⟩) hP
      · skip
        have h777 : ¬ ((v % 3) = 0) := fun q => h777 ((z_le0 (by omega)).mpr q)
        have h777 : 0 < (v % 3) := Nat.pos_of_ne_zero h777
        refine lv_aload_n hx hb dL_acts_780 rfl (lv_at hl 0 rfl) ?_
        refine lv_iload hx hb dL_acts_781 (lv_at hl 8 rfl) ?_
        refine lv_if_ge (tgt := 790) hx hb dL_acts_783 (by decide) (fun h783 => ?_) (fun h783 => ?_)
        · skip
          have h783 : True := (z_ge0 (by omega)).mp h783
          refine lv_iload hx hb dL_acts_790 (lv_at hl 5 rfl) ?_
          refine lv_iconst (v := nI 3) hx hb dL_acts_792 (by decide) ?_
          refine lv_irem hx hb dL_acts_793 (nI_ne0 (by omega) (by omega)) ?_
          refine lv_topi (nm_r (e' := nI (v % 3)) (pk_rem (by omega) (by omega) (by omega)) ?_)
          refine lv_if_le (tgt := 802) hx hb dL_acts_794 (by decide) (fun h794 => ?_) (fun h794 => ?_)
          · skip
            have h794 : (v % 3) = 0 := (z_le0 (by omega)).mp h794
            refine lv_iload hx hb dL_acts_802 (lv_at hl 7 rfl) ?_
            refine zwrR (G := G) (w1 := (wL G q σ)) (wc := wX G ad σ T o n f x len) (wc' := wX G ad σ T o n f x len) (va_runV (As := [.int (nI e)]) (rest := []) ⟨hx, hb, hml, hown, hts⟩ (kX4_release_no l G ad σ T o n f x len e (hO) (by omega) (by omega) (by omega) (by omega) (zD_any (zD_r hD))) (cwV 1 hts gL_acts_X4_release rfl rfl rfl (by decide +kernel) ⟨Nat.le_of_ble_eq_true rfl, Nat.le_of_ble_eq_true rfl⟩) (zPreV hG (va_recv (q0 := 0) (ci := 4) hG.1 (zP_r hP) rfl rfl) (zP_r hP)) rfl rfl hl.1 rfl (lv_room (Nat.le_of_ble_eq_true rfl)) dL_acts_804 ⟨Nat.le_of_ble_eq_true rfl, Nat.le_of_ble_eq_true rfl⟩) hP hD hS (wX_map ..) (fun H locs hP hD hS => ?_)
            refine lv_iload hx hb dL_acts_807 (lv_at hl 8 rfl) ?_
            refine lv_if_lt (tgt := 819) hx hb dL_acts_809 (by decide) (fun h809 => ?_) (fun h809 => ?_)
            · skip
              have h809 : False := (z_lt0 (by omega)).mp h809
              exfalso; omega
            · skip
              have h809 : ¬ (False) := fun q => h809 ((z_lt0 (by omega)).mpr q)
              refine lv_iload hx hb dL_acts_812 (lv_at hl 5 rfl) ?_
              refine lv_iconst (v := nI 3) hx hb dL_acts_814 (by decide) ?_
              refine lv_irem hx hb dL_acts_815 (nI_ne0 (by omega) (by omega)) ?_
              refine lv_topi (nm_r (e' := nI (v % 3)) (pk_rem (by omega) (by omega) (by omega)) ?_)
              refine lv_if_le (tgt := 823) hx hb dL_acts_816 (by decide) (fun h816 => ?_) (fun h816 => ?_)
              · skip
                have h816 : (v % 3) = 0 := (z_le0 (by omega)).mp h816
                refine lv_bipush (v := (-2)) hx hb dL_acts_823 (by decide) ?_
                refine lv_icmp_ne (tgt := 832) hx hb dL_acts_825 (by decide) (fun h825 => ?_) (fun h825 => ?_)
                · skip
                  first | exact absurd rfl h825 | (exfalso; omega)
                · skip
                  refine lv_iconst (v := nI 1) hx hb dL_acts_828 (by decide) ?_
                  refine lv_goto (tgt := 833) hx hb dL_acts_829 (by decide) ?_
                  exact hret _ _ _ _ _ _ _ _ _ dL_acts_833 hS (⟨hO.up hN, hC, ho, hn, hM⟩) hP
              · skip
                have h816 : ¬ ((v % 3) = 0) := fun q => h816 ((z_le0 (by omega)).mpr q)
                have h816 : 0 < (v % 3) := Nat.pos_of_ne_zero h816
                refine lv_iconst (v := (-1)) hx hb dL_acts_819 (by decide) ?_
                refine lv_goto (tgt := 825) hx hb dL_acts_820 (by decide) ?_
                refine lv_icmp_ne (tgt := 832) hx hb dL_acts_825 (by decide) (fun h825 => ?_) (fun h825 => ?_)
                · skip
                  first | exact absurd rfl h825 | (exfalso; omega)
                · skip
                  refine lv_iconst (v := nI 1) hx hb dL_acts_828 (by decide) ?_
                  refine lv_goto (tgt := 833) hx hb dL_acts_829 (by decide) ?_
                  exact hret _ _ _ _ _ _ _ _ _ dL_acts_833 hS (⟨hO.up hN, hC, ho, hn, hM⟩) hP
          · skip
            have h794 : ¬ ((v % 3) = 0) := fun q => h794 ((z_le0 (by omega)).mpr q)
            have h794 : 0 < (v % 3) := Nat.pos_of_ne_zero h794
            refine lv_iload hx hb dL_acts_797 (lv_at hl 6 rfl) ?_
            refine lv_goto (tgt := 804) hx hb dL_acts_799 (by decide) ?_
            refine zwrR (G := G) (w1 := (wL G q σ)) (wc := wX G ad σ T o n f x len) (wc' := wX G ad σ T o n f x len) (va_runV (As := [.int (nI (nE σ))]) (rest := []) ⟨hx, hb, hml, hown, hts⟩ (kX4_release_inv l G ad σ T o n f x len (nI (nE σ)) (hO) (by omega) (by omega) (fun z => absurd ((nI_ltI (by omega) (by omega)).mp z.2) (by omega)) (zD_any (zD_r hD))) (cwV 1 hts gL_acts_X4_release rfl rfl rfl (by decide +kernel) ⟨Nat.le_of_ble_eq_true rfl, Nat.le_of_ble_eq_true rfl⟩) (zPreV hG (va_recv (q0 := 0) (ci := 4) hG.1 (zP_r hP) rfl rfl) (zP_r hP)) rfl rfl hl.1 rfl (lv_room (Nat.le_of_ble_eq_true rfl)) dL_acts_804 ⟨Nat.le_of_ble_eq_true rfl, Nat.le_of_ble_eq_true rfl⟩) hP hD hS (wX_map ..) (fun H locs hP hD hS => ?_)
            refine lv_iload hx hb dL_acts_807 (lv_at hl 8 rfl) ?_
            refine lv_if_lt (tgt := 819) hx hb dL_acts_809 (by decide) (fun h809 => ?_) (fun h809 => ?_)
            · skip
              have h809 : False := (z_lt0 (by omega)).mp h809
              exfalso; omega
            · skip
              have h809 : ¬ (False) := fun q => h809 ((z_lt0 (by omega)).mpr q)
              refine lv_iload hx hb dL_acts_812 (lv_at hl 5 rfl) ?_
              refine lv_iconst (v := nI 3) hx hb dL_acts_814 (by decide) ?_
              refine lv_irem hx hb dL_acts_815 (nI_ne0 (by omega) (by omega)) ?_
              refine lv_topi (nm_r (e' := nI (v % 3)) (pk_rem (by omega) (by omega) (by omega)) ?_)
              refine lv_if_le (tgt := 823) hx hb dL_acts_816 (by decide) (fun h816 => ?_) (fun h816 => ?_)
              · skip
                have h816 : (v % 3) = 0 := (z_le0 (by omega)).mp h816
                refine lv_bipush (v := (-2)) hx hb dL_acts_823 (by decide) ?_
                refine lv_icmp_ne (tgt := 832) hx hb dL_acts_825 (by decide) (fun h825 => ?_) (fun h825 => ?_)
                · skip
                  first | exact absurd rfl h825 | (exfalso; omega)
                · skip
                  refine lv_iconst (v := nI 1) hx hb dL_acts_828 (by decide) ?_
                  refine lv_goto (tgt := 833) hx hb dL_acts_829 (by decide) ?_
                  exact hret _ _ _ _ _ _ _ _ _ dL_acts_833 hS (⟨hO.up hN, hC, ho, hn, hM⟩) hP
              · skip
                have h816 : ¬ ((v % 3) = 0) := fun q => h816 ((z_le0 (by omega)).mpr q)
                have h816 : 0 < (v % 3) := Nat.pos_of_ne_zero h816
                refine lv_iconst (v := (-1)) hx hb dL_acts_819 (by decide) ?_
                refine lv_goto (tgt := 825) hx hb dL_acts_820 (by decide) ?_
                refine lv_icmp_ne (tgt := 832) hx hb dL_acts_825 (by decide) (fun h825 => ?_) (fun h825 => ?_)
                · skip
                  first | exact absurd rfl h825 | (exfalso; omega)
                · skip
                  refine lv_iconst (v := nI 1) hx hb dL_acts_828 (by decide) ?_
                  refine lv_goto (tgt := 833) hx hb dL_acts_829 (by decide) ?_
                  exact hret _ _ _ _ _ _ _ _ _ dL_acts_833 hS (⟨hO.up hN, hC, ho, hn, hM⟩) hP
        · skip
          have h783 : ¬ (True) := fun q => h783 ((z_ge0 (by omega)).mpr q)
          exact absurd trivial h783
