set_option maxHeartbeats 8000000 in
set_option maxRecDepth 100000 in
theorem kL_begins (l : Launch) (G : zG) (q : Nat → Nat) (f1 f2 : Nat → Int32) (f3 f4 : Nat → Int64) (g t c r : Nat) (h2 : f1 2 = nI g) (h3 : f1 3 = nI t) (hd : va_D (fun _ => True) (wL0 G q f1 f2 f3 f4)) : Met l yL_begins wsL_begins (zRm 1 24) (zPc G [.ref (q 0), .ref (q 1), .ref (q 2), .ref (q 3), .int (nI c), .int (nI r)] (va_P G.1 vwCl (wL0 G q f1 f2 f3 f4))) (zQ (zA (wL0 G q f1 f2 f3 f4)) none (va_P G.1 vwCl (wL G q (bgn c r g t)))) 0 0 (zA (wL0 G q f1 f2 f3 f4)) := by
  refine zmkWv (w := (wL0 G q f1 f2 f3 f4)) hd (cc := cL_begins) (maxL := 7) (by decide) rfl (Nat.le_of_ble_eq_true rfl) ?_
  intro pr en st mi ar bl me cd ls Q hx hb hml hown hts hG hP hl hD hS hret
  have hown : st.vm.findClass RL = some mi.cls := hown
  have hl : lv_has ls 7 [(0, .ref (q 0)), (1, .ref (q 1)), (2, .ref (q 2)), (3, .ref (q 3)), (4, .int (nI c)), (5, .int (nI r))] := hl
  have hP : va_P G.1 vwCl (wL0 G q f1 f2 f3 f4) st.heap := hP
  have hD : va_D (zA (wL0 G q f1 f2 f3 f4)) (wL0 G q f1 f2 f3 f4) := hD
  have hc38 := hts (.constantLong RL 38 (9876543210)) (List.mem_cons_of_mem _ List.mem_cons_self)
  obtain ⟨H, hH⟩ : ∃ H, H = st.heap := ⟨_, rfl⟩
  obtain ⟨locs, hlo⟩ : ∃ locs : List Loc, locs = [] := ⟨_, rfl⟩
  have hP : va_P G.1 vwCl (wL0 G q f1 f2 f3 f4) H := by rw [hH]; exact hP
  have hS : va_S (zA (wL0 G q f1 f2 f3 f4)) st.heap H locs := by rw [hH, hlo]; exact hS
  suffices hgo : W pr l en (zRm 1 24) st mi ar bl me cd H locs 0 0 Q (F0 mi 0 ls []) by rw [hH, hlo] at hgo; exact hgo
  clear hH hlo
  refine lv_aload_n hx hb dL_begins_0 rfl (lv_at hl 0 rfl) ?_
  refine lv_iconst (v := nI 0) hx hb dL_begins_1 (by decide) ?_
  refine lv_iload hx hb dL_begins_2 (lv_at hl 4 rfl) ?_
  refine va_iast hx hb hG.1 hP hD hS 0 0 rfl rfl (vp_in_nI (n := 0) (N := 5) (by omega) (by omega)) dL_begins_4 (fun H locs hP hD hS => ?_)
  rw [nI_clamp (show 0 < 2 ^ 31 by omega)] at hP hD
  have hP : va_P G.1 vwCl (wL0 G q (upd f1 0 (nI c)) f2 f3 f4) H := hP
  have hD : va_D (zA (wL0 G q f1 f2 f3 f4)) (wL0 G q (upd f1 0 (nI c)) f2 f3 f4) := hD
  refine lv_aload_n hx hb dL_begins_5 rfl (lv_at hl 0 rfl) ?_
  refine lv_iconst (v := nI 1) hx hb dL_begins_6 (by decide) ?_
  refine lv_iload hx hb dL_begins_7 (lv_at hl 5 rfl) ?_
  refine va_iast hx hb hG.1 hP hD hS 0 0 rfl rfl (vp_in_nI (n := 1) (N := 5) (by omega) (by omega)) dL_begins_9 (fun H locs hP hD hS => ?_)
  rw [nI_clamp (show 1 < 2 ^ 31 by omega)] at hP hD
  have hP : va_P G.1 vwCl (wL0 G q (upd (upd f1 0 (nI c)) 1 (nI r)) f2 f3 f4) H := hP
  have hD : va_D (zA (wL0 G q f1 f2 f3 f4)) (wL0 G q (upd (upd f1 0 (nI c)) 1 (nI r)) f2 f3 f4) := hD
  refine lv_aload_n hx hb dL_begins_10 rfl (lv_at hl 0 rfl) ?_
  refine lv_iconst (v := nI 4) hx hb dL_begins_11 (by decide) ?_
  refine lv_iconst (v := nI 0) hx hb dL_begins_12 (by decide) ?_
  refine va_iast hx hb hG.1 hP hD hS 0 0 rfl rfl (vp_in_nI (n := 4) (N := 5) (by omega) (by omega)) dL_begins_13 (fun H locs hP hD hS => ?_)
  rw [nI_clamp (show 4 < 2 ^ 31 by omega)] at hP hD
  have hP : va_P G.1 vwCl (wL0 G q (upd (upd (upd f1 0 (nI c)) 1 (nI r)) 4 (nI 0)) f2 f3 f4) H := hP
  have hD : va_D (zA (wL0 G q f1 f2 f3 f4)) (wL0 G q (upd (upd (upd f1 0 (nI c)) 1 (nI r)) 4 (nI 0)) f2 f3 f4) := hD
  refine lv_iconst (v := nI 0) hx hb dL_begins_14 (by decide) ?_
  refine lv_istore (lv' := [(6, .int (nI 0)), (0, .ref (q 0)), (1, .ref (q 1)), (2, .ref (q 2)), (3, .ref (q 3)), (4, .int (nI c)), (5, .int (nI r))]) hx hb dL_begins_15 hl (by decide) rfl (fun ls hl => ?_)
  have loop17 : ∀ (m : Nat) (i : Nat) (m2 : Nat → Int32) (m3 : Nat → Int64) (m4 : Nat → Int64) (hr2 : ∀ j, j < 6 → j < i → m2 j = nI 0 ∧ m2 (6 + j) = (-4) ∧ m2 (12 + j) = nI 1000) (ha3 : ∀ j, j < i → m3 j = lN (11 ^ 10 - 1)) (hb4 : ∀ j, j < 6 → j < i → m4 j = lN 9876543210) (hi : i ≤ 24) (hm : 24 < i + m) (ls : Array Slot) (hl : lv_has ls 7 [(0, .ref (q 0)), (1, .ref (q 1)), (2, .ref (q 2)), (3, .ref (q 3)), (4, .int (nI c)), (5, .int (nI r)), (6, .int (nI i))]) (H : Heap) (locs : List Loc) (hP : va_P G.1 vwCl (wL0 G q (upd (upd (upd f1 0 (nI c)) 1 (nI r)) 4 (nI 0)) m2 m3 m4) H) (hD : va_D (zA (wL0 G q f1 f2 f3 f4)) (wL0 G q (upd (upd (upd f1 0 (nI c)) 1 (nI r)) 4 (nI 0)) m2 m3 m4)) (hS : va_S (zA (wL0 G q f1 f2 f3 f4)) st.heap H locs), W pr l en (zRm 1 24) st mi ar bl me cd H locs 0 0 Q (F0 mi 17 ls []) := by
    intro m
    induction m with
    | zero => intro i m2 m3 m4 hr2 ha3 hb4 hi hm ls hl H locs hP hD hS; exfalso; omega
    | succ m ih17 =>
      intro i m2 m3 m4 hr2 ha3 hb4 hi hm ls hl H locs hP hD hS
      have him := Nat.mod_lt i (show 0 < 6 by omega)
      refine lv_iload hx hb dL_begins_17 (lv_at hl 6 rfl) ?_
      refine lv_bipush (v := nI 24) hx hb dL_begins_19 (by decide) ?_
      refine lv_icmp_ge (tgt := 86) hx hb dL_begins_21 (by decide) (fun h21 => ?_) (fun h21 => ?_)
      · skip
        have h21 : 24 ≤ i := (nI_leI (by omega) (by omega)).mp h21
        have h24 : i = 24 := by omega
        exact hret _ _ _ _ dL_begins_86 hS (wL_x0 (bgn_g h2 h3) (bgn_r (fun j hj => hr2 j hj (by omega))) (fun j hj => by rw [ha3 j (by omega)]; unfold aF; rw [bgn_aN _ _ _ _ _ _ (Nat.mod_lt j (by omega))]) (fun j hj => by rw [hb4 j hj (by omega)]; unfold bF; rw [bgn_bN]) hP)
      · skip
        have h21 : ¬ (24 ≤ i) := fun q => h21 ((nI_leI (by omega) (by omega)).mpr q)
        refine lv_aload_n hx hb dL_begins_24 rfl (lv_at hl 2 rfl) ?_
        refine lv_iload hx hb dL_begins_25 (lv_at hl 6 rfl) ?_
        refine lv_bipush (v := nI 11) hx hb dL_begins_27 (by decide) ?_
        refine lv_bipush (v := nI 10) hx hb dL_begins_29 (by decide) ?_
        refine zrdS (As := [.int (nI 11), .int (nI 10)]) ⟨hx, hb, hml, hown, hts⟩ (kL_power l G  11 10 (by omega) (by omega) (by omega)) (va_cwS 2 hts gL_begins_L_power rfl rfl rfl (by decide +kernel) ⟨Nat.le_of_ble_eq_true rfl, Nat.le_of_ble_eq_true rfl⟩) hG (trivial) rfl rfl hl.1 dL_begins_31 (Nat.le_of_ble_eq_true rfl) ⟨Nat.le_of_ble_eq_true rfl, Nat.le_of_ble_eq_true rfl⟩ ?_
        refine lv_lconst (v := lN 1) hx hb dL_begins_34 rfl ?_
        refine lv_lsub hx hb dL_begins_35 ?_
        refine lv_topl (nm_r (e' := lN ((11 ^ 10) - 1)) (lN_sub (by omega)) ?_)
        refine va_last hx hb hG.1 hP hD hS 2 3 rfl rfl (vp_in_nI (n := i) (N := 24) (by omega) (by omega)) dL_begins_36 (fun H locs hP hD hS => ?_)
        rw [nI_clamp (show i < 2 ^ 31 by omega)] at hP hD
        have hP : va_P G.1 vwCl (wL0 G q (upd (upd (upd f1 0 (nI c)) 1 (nI r)) 4 (nI 0)) m2 (vp_updL m3 i (lN ((11 ^ 10) - 1))) m4) H := hP
        have hD : va_D (zA (wL0 G q f1 f2 f3 f4)) (wL0 G q (upd (upd (upd f1 0 (nI c)) 1 (nI r)) 4 (nI 0)) m2 (vp_updL m3 i (lN ((11 ^ 10) - 1))) m4) := hD
        refine lv_aload_n hx hb dL_begins_37 rfl (lv_at hl 3 rfl) ?_
        refine lv_iload hx hb dL_begins_38 (lv_at hl 6 rfl) ?_
        refine lv_bipush (v := nI 6) hx hb dL_begins_40 (by decide) ?_
        refine lv_irem hx hb dL_begins_42 (nI_ne0 (by omega) (by omega)) ?_
        refine lv_topi (nm_r (e' := nI (i % 6)) (pk_rem (by omega) (by omega) (by omega)) ?_)
        refine lv_ldc2 hx hb hown hc38 dL_begins_43 ?_
        refine lv_topl (nm_r (e' := (lN 9876543210)) (rfl) ?_)
        refine va_last hx hb hG.1 hP hD hS 3 3 rfl rfl (vp_in_nI (n := i % 6) (N := 6) (by omega) (by omega)) dL_begins_46 (fun H locs hP hD hS => ?_)
        rw [nI_clamp (show i % 6 < 2 ^ 31 by omega)] at hP hD
        have hP : va_P G.1 vwCl (wL0 G q (upd (upd (upd f1 0 (nI c)) 1 (nI r)) 4 (nI 0)) m2 (vp_updL m3 i (lN ((11 ^ 10) - 1))) (vp_updL m4 (i % 6) (lN 9876543210))) H := hP
        have hD : va_D (zA (wL0 G q f1 f2 f3 f4)) (wL0 G q (upd (upd (upd f1 0 (nI c)) 1 (nI r)) 4 (nI 0)) m2 (vp_updL m3 i (lN ((11 ^ 10) - 1))) (vp_updL m4 (i % 6) (lN 9876543210))) := hD
        refine lv_aload_n hx hb dL_begins_47 rfl (lv_at hl 1 rfl) ?_
        refine lv_iload hx hb dL_begins_48 (lv_at hl 6 rfl) ?_
        refine lv_bipush (v := nI 6) hx hb dL_begins_50 (by decide) ?_
        refine lv_irem hx hb dL_begins_52 (nI_ne0 (by omega) (by omega)) ?_
        refine lv_topi (nm_r (e' := nI (i % 6)) (pk_rem (by omega) (by omega) (by omega)) ?_)
        refine lv_iconst (v := nI 0) hx hb dL_begins_53 (by decide) ?_
        refine va_iast hx hb hG.1 hP hD hS 1 0 rfl rfl (vp_in_nI (n := i % 6) (N := 18) (by omega) (by omega)) dL_begins_54 (fun H locs hP hD hS => ?_)
        rw [nI_clamp (show i % 6 < 2 ^ 31 by omega)] at hP hD
        have hP : va_P G.1 vwCl (wL0 G q (upd (upd (upd f1 0 (nI c)) 1 (nI r)) 4 (nI 0)) (upd m2 (i % 6) (nI 0)) (vp_updL m3 i (lN ((11 ^ 10) - 1))) (vp_updL m4 (i % 6) (lN 9876543210))) H := hP
        have hD : va_D (zA (wL0 G q f1 f2 f3 f4)) (wL0 G q (upd (upd (upd f1 0 (nI c)) 1 (nI r)) 4 (nI 0)) (upd m2 (i % 6) (nI 0)) (vp_updL m3 i (lN ((11 ^ 10) - 1))) (vp_updL m4 (i % 6) (lN 9876543210))) := hD
        refine lv_aload_n hx hb dL_begins_55 rfl (lv_at hl 1 rfl) ?_
        refine lv_bipush (v := nI 6) hx hb dL_begins_56 (by decide) ?_
        refine lv_iload hx hb dL_begins_58 (lv_at hl 6 rfl) ?_
        refine lv_bipush (v := nI 6) hx hb dL_begins_60 (by decide) ?_
        refine lv_irem hx hb dL_begins_62 (nI_ne0 (by omega) (by omega)) ?_
        refine lv_topi (nm_r (e' := nI (i % 6)) (pk_rem (by omega) (by omega) (by omega)) ?_)
        refine lv_iadd hx hb dL_begins_63 ?_
        refine lv_topi (nm_r (e' := nI (6 + (i % 6))) (nI_add _ _) ?_)
        refine lv_bipush (v := (-4)) hx hb dL_begins_64 (by decide) ?_
        refine va_iast hx hb hG.1 hP hD hS 1 0 rfl rfl (vp_in_nI (n := 6 + (i % 6)) (N := 18) (by omega) (by omega)) dL_begins_66 (fun H locs hP hD hS => ?_)
        rw [nI_clamp (show 6 + (i % 6) < 2 ^ 31 by omega)] at hP hD
        have hP : va_P G.1 vwCl (wL0 G q (upd (upd (upd f1 0 (nI c)) 1 (nI r)) 4 (nI 0)) (upd (upd m2 (i % 6) (nI 0)) (6 + (i % 6)) (-4)) (vp_updL m3 i (lN ((11 ^ 10) - 1))) (vp_updL m4 (i % 6) (lN 9876543210))) H := hP
        have hD : va_D (zA (wL0 G q f1 f2 f3 f4)) (wL0 G q (upd (upd (upd f1 0 (nI c)) 1 (nI r)) 4 (nI 0)) (upd (upd m2 (i % 6) (nI 0)) (6 + (i % 6)) (-4)) (vp_updL m3 i (lN ((11 ^ 10) - 1))) (vp_updL m4 (i % 6) (lN 9876543210))) := hD
        refine lv_aload_n hx hb dL_begins_67 rfl (lv_at hl 1 rfl) ?_
        refine lv_bipush (v := nI 12) hx hb dL_begins_68 (by decide) ?_
        refine lv_iload hx hb dL_begins_70 (lv_at hl 6 rfl) ?_
        refine lv_bipush (v := nI 6) hx hb dL_begins_72 (by decide) ?_
        refine lv_irem hx hb dL_begins_74 (nI_ne0 (by omega) (by omega)) ?_
        refine lv_topi (nm_r (e' := nI (i % 6)) (pk_rem (by omega) (by omega) (by omega)) ?_)
        refine lv_iadd hx hb dL_begins_75 ?_
        refine lv_topi (nm_r (e' := nI (12 + (i % 6))) (nI_add _ _) ?_)
        refine lv_sipush (v := nI 1000) hx hb dL_begins_76 (by decide) ?_
        refine va_iast hx hb hG.1 hP hD hS 1 0 rfl rfl (vp_in_nI (n := 12 + (i % 6)) (N := 18) (by omega) (by omega)) dL_begins_79 (fun H locs hP hD hS => ?_)
        rw [nI_clamp (show 12 + (i % 6) < 2 ^ 31 by omega)] at hP hD
        have hP : va_P G.1 vwCl (wL0 G q (upd (upd (upd f1 0 (nI c)) 1 (nI r)) 4 (nI 0)) (upd (upd (upd m2 (i % 6) (nI 0)) (6 + (i % 6)) (-4)) (12 + (i % 6)) (nI 1000)) (vp_updL m3 i (lN ((11 ^ 10) - 1))) (vp_updL m4 (i % 6) (lN 9876543210))) H := hP
        have hD : va_D (zA (wL0 G q f1 f2 f3 f4)) (wL0 G q (upd (upd (upd f1 0 (nI c)) 1 (nI r)) 4 (nI 0)) (upd (upd (upd m2 (i % 6) (nI 0)) (6 + (i % 6)) (-4)) (12 + (i % 6)) (nI 1000)) (vp_updL m3 i (lN ((11 ^ 10) - 1))) (vp_updL m4 (i % 6) (lN 9876543210))) := hD
        refine lv_iinc (v := nI (i + 1)) (lv' := [(6, .int (nI (i + 1))), (0, .ref (q 0)), (1, .ref (q 1)), (2, .ref (q 2)), (3, .ref (q 3)), (4, .int (nI c)), (5, .int (nI r))]) hx hb dL_begins_80 hl (k := 6) rfl (zinc1 _) (by decide) rfl (fun ls hl => ?_)
        refine lv_goto (tgt := 17) hx hb dL_begins_83 (by decide) ?_
        exact ih17 (i + 1) (upd (upd (upd m2 (i % 6) (nI 0)) (6 + (i % 6)) (-4)) (12 + (i % 6)) (nI 1000)) (vp_updL m3 i (lN ((11 ^ 10) - 1))) (vp_updL m4 (i % 6) (lN 9876543210)) (bgn_st hr2) (fun j hj => by unfold vp_updL; split <;> first | rfl | (exact ha3 j (by omega))) (fun j h6 hj => by unfold vp_updL; split <;> first | rfl | (exact hb4 j h6 (by omega))) (by omega) (by omega) _ (lv_sub hl [1, 2, 3, 4, 5, 6, 0] rfl) _ _ hP hD hS
  exact loop17 25 0 f2 f3 f4 (fun j _ hj => absurd hj (Nat.not_lt_zero j)) (fun j hj => absurd hj (Nat.not_lt_zero j)) (fun j _ hj => absurd hj (Nat.not_lt_zero j)) (by omega) (by omega) _ (lv_sub hl [1, 2, 3, 4, 5, 6, 0] rfl) _ _ hP hD hS
set_option maxHeartbeats 8000000 in
set_option maxRecDepth 100000 in
theorem kL_keeps_ok (l : Launch) (G : zG) (q : Nat → Nat) (σ : Nat → Nat) {N : Nat} (k pl hv lg : Nat) (hO : Ok N σ) (hM : Sml σ) (hk : k < 6) (hrf : ¬ (0 < trn σ ∧ σ 2 = 1)) (hd : va_D (fun _ => True) (wL G q σ)) : Met l yL_keeps wsL_keeps (zRm 6 147) (zPc G [.ref (q 0), .ref (q 1), .ref (q 2), .ref (q 3), .int (nI k), .int (nI pl), .long (lN hv), .int (nI lg)] (va_P G.1 vwCl (wL G q σ))) (zQ (zA (wL G q σ)) (some (.int (nI 1))) (va_P G.1 vwCl (wL G q (kpS σ k)))) 0 0 (zA (wL G q σ)) := by
  refine zmkWz (v := True) (w := (wL G q σ)) hd (cc := cL_keeps) (maxL := 10) (by decide) rfl (Nat.le_of_ble_eq_true rfl) ?_
  intro pr en st mi ar bl me cd ls Q hx hb hml hown hts hG hP hl hD hS hret
  have hown : st.vm.findClass RL = some mi.cls := hown
  have hl : lv_has ls 10 [(0, .ref (q 0)), (1, .ref (q 1)), (2, .ref (q 2)), (3, .ref (q 3)), (4, .int (nI k)), (5, .int (nI pl)), (6, .long (lN hv)), (8, .int (nI lg))] := hl
  have hP : va_P G.1 vwCl (wL G q σ) st.heap := hP
  have hD : va_D (zA (wL G q σ)) (wL G q σ) := hD
  have hc := hO.c
  have hs := hO.lS
  have hne := hO.lE
  have hM6 := hM.s
  have hM7 := hM.e
  have hM4 := hM.r
  have hM1 := hM.1
  have hM2 := hM.2
  have hg2 := hO.2.2.1
  have ht7 := trn_lt σ
  obtain ⟨H, hH⟩ : ∃ H, H = st.heap := ⟨_, rfl⟩
  obtain ⟨locs, hlo⟩ : ∃ locs : List Loc, locs = [] := ⟨_, rfl⟩
  have hP : va_P G.1 vwCl (wL G q σ) H := by rw [hH]; exact hP
  have hS : va_S (zA (wL G q σ)) st.heap H locs := by rw [hH, hlo]; exact hS
  suffices hgo : W pr l en (zRm 6 147) st mi ar bl me cd H locs 0 0 Q (F0 mi 0 ls []) by rw [hH, hlo] at hgo; exact hgo
  clear hH hlo
  refine lv_aload_n hx hb dL_keeps_0 rfl (lv_at hl 0 rfl) ?_
  refine lv_aload_n hx hb dL_keeps_1 rfl (lv_at hl 2 rfl) ?_
  refine lv_aload_n hx hb dL_keeps_2 rfl (lv_at hl 3 rfl) ?_
  refine zrdS (As := [.ref (q 0), .ref (q 2), .ref (q 3)]) ⟨hx, hb, hml, hown, hts⟩ (kL_torn l G q σ (hO) (hM)) (va_cwS 3 hts gL_keeps_L_torn rfl rfl rfl (by decide +kernel) ⟨Nat.le_of_ble_eq_true rfl, Nat.le_of_ble_eq_true rfl⟩) hG (hP) rfl rfl hl.1 dL_keeps_3 (Nat.le_of_ble_eq_true rfl) ⟨Nat.le_of_ble_eq_true rfl, Nat.le_of_ble_eq_true rfl⟩ ?_
  refine lv_istore (lv' := [(9, .int (nI (trn σ))), (0, .ref (q 0)), (1, .ref (q 1)), (2, .ref (q 2)), (3, .ref (q 3)), (4, .int (nI k)), (5, .int (nI pl)), (6, .long (lN hv)), (8, .int (nI lg))]) hx hb dL_keeps_6 hl (by decide) rfl (fun ls hl => ?_)
  refine lv_iload hx hb dL_keeps_8 (lv_at hl 0 rfl) ?_
  refine lv_if_le (tgt := 58) hx hb dL_keeps_10 (by decide) (fun h10 => ?_) (fun h10 => ?_)
  · skip
    have h10 : (trn σ) = 0 := (z_le0 (by omega)).mp h10
    refine lv_aload_n hx hb dL_keeps_58 rfl (lv_at hl 1 rfl) ?_
    refine lv_iconst (v := nI 4) hx hb dL_keeps_59 (by decide) ?_
    refine lv_dup2_11 hx hb dL_keeps_60 rfl rfl ?_
    refine va_iald hx hb hG.1 hP 0 0 rfl rfl (vp_in_nI (n := 4) (N := 5) (by omega) (by omega)) dL_keeps_61 ?_
    refine lv_topi (nm_r (e' := nI (agM σ)) (by rw [nI_clamp (by omega)]; exact if_pos rfl) ?_)
    refine lv_iload hx hb dL_keeps_62 (lv_at hl 0 rfl) ?_
    refine lv_iconst (v := (-1)) hx hb dL_keeps_64 (by decide) ?_
    refine lv_ixor hx hb dL_keeps_65 ?_
    refine lv_iand hx hb dL_keeps_66 ?_
    refine lv_topi (nm_r (e' := (nI (agM (grs σ (nE σ))))) (agM_gr hO (by omega)) ?_)
    refine va_iast hx hb hG.1 hP hD hS 0 0 rfl rfl (vp_in_nI (n := 4) (N := 5) (by omega) (by omega)) dL_keeps_67 (fun H locs hP hD hS => ?_)
    rw [nI_clamp (show 4 < 2 ^ 31 by omega)] at hP hD
    have hP : va_P G.1 vwCl (wL0 G q (upd (gF σ) 4 (nI (agM (grs σ (nE σ))))) (rF σ) (aF σ) (bF σ)) H := hP
    have hD : va_D (zA (wL G q σ)) (wL0 G q (upd (gF σ) 4 (nI (agM (grs σ (nE σ))))) (rF σ) (aF σ) (bF σ)) := hD
    refine lv_aload_n hx hb dL_keeps_68 rfl (lv_at hl 2 rfl) ?_
    refine lv_iload hx hb dL_keeps_69 (lv_at hl 5 rfl) ?_
    refine lv_dup2_11 hx hb dL_keeps_71 rfl rfl ?_
    refine va_iald hx hb hG.1 hP 1 0 rfl rfl (vp_in_nI (n := k) (N := 18) (by omega) (by omega)) dL_keeps_72 ?_
    refine lv_topi (nm_r (e' := nI (rvn σ k)) (by rw [nI_clamp (by omega)]; unfold rF; rw [if_pos (by omega)]) ?_)
    refine lv_iconst (v := nI 1) hx hb dL_keeps_73 (by decide) ?_
    refine lv_iadd hx hb dL_keeps_74 ?_
    refine lv_topi (nm_r (e' := nI ((rvn σ k) + 1)) (nI_add _ _) ?_)
    refine va_iast hx hb hG.1 hP hD hS 1 0 rfl rfl (vp_in_nI (n := k) (N := 18) (by omega) (by omega)) dL_keeps_75 (fun H locs hP hD hS => ?_)
    rw [nI_clamp (show k < 2 ^ 31 by omega)] at hP hD
    have hP : va_P G.1 vwCl (wL0 G q (upd (gF σ) 4 (nI (agM (grs σ (nE σ))))) (upd (rF σ) k (nI ((rvn σ k) + 1))) (aF σ) (bF σ)) H := hP
    have hD : va_D (zA (wL G q σ)) (wL0 G q (upd (gF σ) 4 (nI (agM (grs σ (nE σ))))) (upd (rF σ) k (nI ((rvn σ k) + 1))) (aF σ) (bF σ)) := hD
    refine lv_iconst (v := nI 1) hx hb dL_keeps_76 (by decide) ?_
    exact hret _ _ _ _ _ dL_keeps_77 hS (wL_x0 (kp_g hO (by omega)) (kp_r hO hk) (fun j _ => (congrFun (kp_a hO) j).symm) (fun j _ => (congrFun (kp_b hO) j).symm) hP) (z_t (trivial))
  · skip
    have h10 : ¬ ((trn σ) = 0) := fun q => h10 ((z_le0 (by omega)).mpr q)
    have h10 : 0 < (trn σ) := Nat.pos_of_ne_zero h10
    refine lv_aload_n hx hb dL_keeps_13 rfl (lv_at hl 1 rfl) ?_
    refine lv_iconst (v := nI 2) hx hb dL_keeps_14 (by decide) ?_
    refine va_iald hx hb hG.1 hP 0 0 rfl rfl (vp_in_nI (n := 2) (N := 5) (by omega) (by omega)) dL_keeps_15 ?_
    refine lv_topi (nm_r (e' := nI (σ 2)) (by rw [nI_clamp (by omega)]; exact if_neg (by omega)) ?_)
    refine lv_iconst (v := nI 1) hx hb dL_keeps_16 (by decide) ?_
    refine lv_icmp_ne (tgt := 58) hx hb dL_keeps_17 (by decide) (fun h17 => ?_) (fun h17 => ?_)
    · skip
      have h17 : ¬ ((σ 2) = 1) := fun q => h17 ((nI_eq (by omega) (by omega)).mpr q)
      refine lv_aload_n hx hb dL_keeps_58 rfl (lv_at hl 1 rfl) ?_
      refine lv_iconst (v := nI 4) hx hb dL_keeps_59 (by decide) ?_
      refine lv_dup2_11 hx hb dL_keeps_60 rfl rfl ?_
      refine va_iald hx hb hG.1 hP 0 0 rfl rfl (vp_in_nI (n := 4) (N := 5) (by omega) (by omega)) dL_keeps_61 ?_
      refine lv_topi (nm_r (e' := nI (agM σ)) (by rw [nI_clamp (by omega)]; exact if_pos rfl) ?_)
      refine lv_iload hx hb dL_keeps_62 (lv_at hl 0 rfl) ?_
      refine lv_iconst (v := (-1)) hx hb dL_keeps_64 (by decide) ?_
      refine lv_ixor hx hb dL_keeps_65 ?_
      refine lv_iand hx hb dL_keeps_66 ?_
      refine lv_topi (nm_r (e' := (nI (agM (grs σ (nE σ))))) (agM_gr hO (by omega)) ?_)
      refine va_iast hx hb hG.1 hP hD hS 0 0 rfl rfl (vp_in_nI (n := 4) (N := 5) (by omega) (by omega)) dL_keeps_67 (fun H locs hP hD hS => ?_)
      rw [nI_clamp (show 4 < 2 ^ 31 by omega)] at hP hD
      have hP : va_P G.1 vwCl (wL0 G q (upd (gF σ) 4 (nI (agM (grs σ (nE σ))))) (rF σ) (aF σ) (bF σ)) H := hP
      have hD : va_D (zA (wL G q σ)) (wL0 G q (upd (gF σ) 4 (nI (agM (grs σ (nE σ))))) (rF σ) (aF σ) (bF σ)) := hD
      refine lv_aload_n hx hb dL_keeps_68 rfl (lv_at hl 2 rfl) ?_
      refine lv_iload hx hb dL_keeps_69 (lv_at hl 5 rfl) ?_
      refine lv_dup2_11 hx hb dL_keeps_71 rfl rfl ?_
      refine va_iald hx hb hG.1 hP 1 0 rfl rfl (vp_in_nI (n := k) (N := 18) (by omega) (by omega)) dL_keeps_72 ?_
      refine lv_topi (nm_r (e' := nI (rvn σ k)) (by rw [nI_clamp (by omega)]; unfold rF; rw [if_pos (by omega)]) ?_)
      refine lv_iconst (v := nI 1) hx hb dL_keeps_73 (by decide) ?_
      refine lv_iadd hx hb dL_keeps_74 ?_
      refine lv_topi (nm_r (e' := nI ((rvn σ k) + 1)) (nI_add _ _) ?_)
      refine va_iast hx hb hG.1 hP hD hS 1 0 rfl rfl (vp_in_nI (n := k) (N := 18) (by omega) (by omega)) dL_keeps_75 (fun H locs hP hD hS => ?_)
      rw [nI_clamp (show k < 2 ^ 31 by omega)] at hP hD
      have hP : va_P G.1 vwCl (wL0 G q (upd (gF σ) 4 (nI (agM (grs σ (nE σ))))) (upd (rF σ) k (nI ((rvn σ k) + 1))) (aF σ) (bF σ)) H := hP
      have hD : va_D (zA (wL G q σ)) (wL0 G q (upd (gF σ) 4 (nI (agM (grs σ (nE σ))))) (upd (rF σ) k (nI ((rvn σ k) + 1))) (aF σ) (bF σ)) := hD
      refine lv_iconst (v := nI 1) hx hb dL_keeps_76 (by decide) ?_
      exact hret _ _ _ _ _ dL_keeps_77 hS (wL_x0 (kp_g hO (by omega)) (kp_r hO hk) (fun j _ => (congrFun (kp_a hO) j).symm) (fun j _ => (congrFun (kp_b hO) j).symm) hP) (z_t (trivial))
    · skip
      have h17 : (σ 2) = 1 := (nI_eq (by omega) (by omega)).mp h17
      exact absurd ⟨h10, h17⟩ hrf
set_option maxHeartbeats 8000000 in
set_option maxRecDepth 100000 in
theorem kL_keeps_no (l : Launch) (G : zG) (q : Nat → Nat) (σ : Nat → Nat) {N : Nat} (ρ : Nat → Nat) (k pl hv : Nat) (hO : Ok N σ) (hM : Sml σ) (hk : k < 6) (h1r : 0 < trn σ) (h2r : σ 2 = 1) (e1 : ∀ j, j < 5 → gF σ j = gF ρ j) (e2 : ∀ j, j < 18 → rF σ j = rF ρ j) (e3 : ∀ j, j < 24 → vp_updL (aF σ) pl (lN hv) j = aF ρ j) (e4 : ∀ j, j < 6 → bF σ j = bF ρ j) (hpl : pl < 24) (hd : va_D (fun _ => True) (wL G q σ)) : Met l yL_keeps wsL_keeps (zRm 6 147) (zPc G [.ref (q 0), .ref (q 1), .ref (q 2), .ref (q 3), .int (nI k), .int (nI pl), .long (lN hv), .int (nI 0)] (va_P G.1 vwCl (wL G q σ))) (zQ (zA (wL G q σ)) (some (.int (nI 0))) (va_P G.1 vwCl (wL G q ρ))) 0 0 (zA (wL G q σ)) := by
  refine zmkWz (v := False) (w := (wL G q σ)) hd (cc := cL_keeps) (maxL := 10) (by decide) rfl (Nat.le_of_ble_eq_true rfl) ?_
  intro pr en st mi ar bl me cd ls Q hx hb hml hown hts hG hP hl hD hS hret
  have hown : st.vm.findClass RL = some mi.cls := hown
  have hl : lv_has ls 10 [(0, .ref (q 0)), (1, .ref (q 1)), (2, .ref (q 2)), (3, .ref (q 3)), (4, .int (nI k)), (5, .int (nI pl)), (6, .long (lN hv)), (8, .int (nI 0))] := hl
  have hP : va_P G.1 vwCl (wL G q σ) st.heap := hP
  have hD : va_D (zA (wL G q σ)) (wL G q σ) := hD
  have hc := hO.c
  have hs := hO.lS
  have hne := hO.lE
  have hM6 := hM.s
  have hM7 := hM.e
  have hM4 := hM.r
  have hM1 := hM.1
  have hM2 := hM.2
  have ht7 := trn_lt σ
  obtain ⟨H, hH⟩ : ∃ H, H = st.heap := ⟨_, rfl⟩
  obtain ⟨locs, hlo⟩ : ∃ locs : List Loc, locs = [] := ⟨_, rfl⟩
  have hP : va_P G.1 vwCl (wL G q σ) H := by rw [hH]; exact hP
  have hS : va_S (zA (wL G q σ)) st.heap H locs := by rw [hH, hlo]; exact hS
  suffices hgo : W pr l en (zRm 6 147) st mi ar bl me cd H locs 0 0 Q (F0 mi 0 ls []) by rw [hH, hlo] at hgo; exact hgo
  clear hH hlo
  refine lv_aload_n hx hb dL_keeps_0 rfl (lv_at hl 0 rfl) ?_
  refine lv_aload_n hx hb dL_keeps_1 rfl (lv_at hl 2 rfl) ?_
  refine lv_aload_n hx hb dL_keeps_2 rfl (lv_at hl 3 rfl) ?_
  refine zrdS (As := [.ref (q 0), .ref (q 2), .ref (q 3)]) ⟨hx, hb, hml, hown, hts⟩ (kL_torn l G q σ (hO) (hM)) (va_cwS 3 hts gL_keeps_L_torn rfl rfl rfl (by decide +kernel) ⟨Nat.le_of_ble_eq_true rfl, Nat.le_of_ble_eq_true rfl⟩) hG (hP) rfl rfl hl.1 dL_keeps_3 (Nat.le_of_ble_eq_true rfl) ⟨Nat.le_of_ble_eq_true rfl, Nat.le_of_ble_eq_true rfl⟩ ?_
  refine lv_istore (lv' := [(9, .int (nI (trn σ))), (0, .ref (q 0)), (1, .ref (q 1)), (2, .ref (q 2)), (3, .ref (q 3)), (4, .int (nI k)), (5, .int (nI pl)), (6, .long (lN hv)), (8, .int (nI 0))]) hx hb dL_keeps_6 hl (by decide) rfl (fun ls hl => ?_)
  refine lv_iload hx hb dL_keeps_8 (lv_at hl 0 rfl) ?_
  refine lv_if_le (tgt := 58) hx hb dL_keeps_10 (by decide) (fun h10 => ?_) (fun h10 => ?_)
  · skip
    have h10 : (trn σ) = 0 := (z_le0 (by omega)).mp h10
    exfalso; omega
  · skip
    have h10 : ¬ ((trn σ) = 0) := fun q => h10 ((z_le0 (by omega)).mpr q)
    have h10 : 0 < (trn σ) := Nat.pos_of_ne_zero h10
    refine lv_aload_n hx hb dL_keeps_13 rfl (lv_at hl 1 rfl) ?_
    refine lv_iconst (v := nI 2) hx hb dL_keeps_14 (by decide) ?_
    refine va_iald hx hb hG.1 hP 0 0 rfl rfl (vp_in_nI (n := 2) (N := 5) (by omega) (by omega)) dL_keeps_15 ?_
    refine lv_topi (nm_r (e' := nI (σ 2)) (by rw [nI_clamp (by omega)]; exact if_neg (by omega)) ?_)
    refine lv_iconst (v := nI 1) hx hb dL_keeps_16 (by decide) ?_
    refine lv_icmp_ne (tgt := 58) hx hb dL_keeps_17 (by decide) (fun h17 => ?_) (fun h17 => ?_)
    · skip
      have h17 : ¬ ((σ 2) = 1) := fun q => h17 ((nI_eq (by omega) (by omega)).mpr q)
      exact absurd h2r h17
    · skip
      have h17 : (σ 2) = 1 := (nI_eq (by omega) (by omega)).mp h17
      refine lv_aload_n hx hb dL_keeps_20 rfl (lv_at hl 3 rfl) ?_
      refine lv_iload hx hb dL_keeps_21 (lv_at hl 6 rfl) ?_
      refine lv_iload hx hb dL_keeps_23 (lv_at hl 8 rfl) ?_
      refine lv_if_eq (tgt := 35) hx hb dL_keeps_25 (by decide) (fun h25 => ?_) (fun h25 => ?_)
      · skip
        have h25 : 0 = 0 := (z_eq0 (by omega)).mp h25
        refine lv_lload hx hb dL_keeps_35 (lv_at hl 7 rfl) ?_
        refine va_last hx hb hG.1 hP hD hS 2 3 rfl rfl (vp_in_nI (n := pl) (N := 24) (by omega) (by omega)) dL_keeps_37 (fun H locs hP hD hS => ?_)
        rw [nI_clamp (show pl < 2 ^ 31 by omega)] at hP hD
        have hP : va_P G.1 vwCl (wL0 G q (gF σ) (rF σ) (vp_updL (aF σ) pl (lN hv)) (bF σ)) H := hP
        have hD : va_D (zA (wL G q σ)) (wL0 G q (gF σ) (rF σ) (vp_updL (aF σ) pl (lN hv)) (bF σ)) := hD
        refine lv_aload_n hx hb dL_keeps_38 rfl (lv_at hl 4 rfl) ?_
        refine lv_iload hx hb dL_keeps_39 (lv_at hl 5 rfl) ?_
        refine lv_iload hx hb dL_keeps_41 (lv_at hl 8 rfl) ?_
        refine lv_if_eq (tgt := 51) hx hb dL_keeps_43 (by decide) (fun h43 => ?_) (fun h43 => ?_)
        · skip
          have h43 : 0 = 0 := (z_eq0 (by omega)).mp h43
          refine lv_aload_n hx hb dL_keeps_51 rfl (lv_at hl 4 rfl) ?_
          refine lv_iload hx hb dL_keeps_52 (lv_at hl 5 rfl) ?_
          refine va_lald hx hb hG.1 hP 3 3 rfl rfl (vp_in_nI (n := k) (N := 6) (by omega) (by omega)) dL_keeps_54 ?_
          refine lv_topl (nm_r (e' := (lN (bN σ k))) (by rw [nI_clamp (by omega)]; rfl) ?_)
          refine va_last hx hb hG.1 hP hD hS 3 3 rfl rfl (vp_in_nI (n := k) (N := 6) (by omega) (by omega)) dL_keeps_55 (fun H locs hP hD hS => ?_)
          rw [nI_clamp (show k < 2 ^ 31 by omega)] at hP hD
          have hP : va_P G.1 vwCl (wL0 G q (gF σ) (rF σ) (vp_updL (aF σ) pl (lN hv)) (vp_updL (bF σ) k (lN (bN σ k)))) H := hP
          have hD : va_D (zA (wL G q σ)) (wL0 G q (gF σ) (rF σ) (vp_updL (aF σ) pl (lN hv)) (vp_updL (bF σ) k (lN (bN σ k)))) := hD
          refine lv_iconst (v := nI 0) hx hb dL_keeps_56 (by decide) ?_
          exact hret _ _ _ _ _ dL_keeps_57 hS (wL_x0 e1 e2 e3 (fun j hj => by rw [show lN (bN σ k) = bF σ k from rfl, updL_self]; exact e4 j hj) hP) (z_f (id))
        · skip
          have h43 : ¬ (0 = 0) := fun q => h43 ((z_eq0 (by omega)).mpr q)
          have h43 : 0 < 0 := Nat.pos_of_ne_zero h43
          exfalso; omega
      · skip
        have h25 : ¬ (0 = 0) := fun q => h25 ((z_eq0 (by omega)).mpr q)
        have h25 : 0 < 0 := Nat.pos_of_ne_zero h25
        exfalso; omega
set_option maxHeartbeats 8000000 in
set_option maxRecDepth 100000 in
theorem kL_keeps_nom (l : Launch) (G : zG) (q : Nat → Nat) (σ : Nat → Nat) {N : Nat} (ρ : Nat → Nat) (k hv : Nat) (hO : Ok N σ) (hM : Sml σ) (hk : k < 6) (h1r : 0 < trn σ) (h2r : σ 2 = 1) (e1 : ∀ j, j < 5 → gF σ j = gF ρ j) (e2 : ∀ j, j < 18 → rF σ j = rF ρ j) (e3 : ∀ j, j < 24 → aF σ j = aF ρ j) (e4 : ∀ j, j < 6 → vp_updL (bF σ) k (lN hv) j = bF ρ j) (hd : va_D (fun _ => True) (wL G q σ)) : Met l yL_keeps wsL_keeps (zRm 6 147) (zPc G [.ref (q 0), .ref (q 1), .ref (q 2), .ref (q 3), .int (nI k), .int (nI 0), .long (lN hv), .int (nI 1)] (va_P G.1 vwCl (wL G q σ))) (zQ (zA (wL G q σ)) (some (.int (nI 0))) (va_P G.1 vwCl (wL G q ρ))) 0 0 (zA (wL G q σ)) := by
  refine zmkWz (v := False) (w := (wL G q σ)) hd (cc := cL_keeps) (maxL := 10) (by decide) rfl (Nat.le_of_ble_eq_true rfl) ?_
  intro pr en st mi ar bl me cd ls Q hx hb hml hown hts hG hP hl hD hS hret
  have hown : st.vm.findClass RL = some mi.cls := hown
  have hl : lv_has ls 10 [(0, .ref (q 0)), (1, .ref (q 1)), (2, .ref (q 2)), (3, .ref (q 3)), (4, .int (nI k)), (5, .int (nI 0)), (6, .long (lN hv)), (8, .int (nI 1))] := hl
  have hP : va_P G.1 vwCl (wL G q σ) st.heap := hP
  have hD : va_D (zA (wL G q σ)) (wL G q σ) := hD
  have hc := hO.c
  have hs := hO.lS
  have hne := hO.lE
  have hM6 := hM.s
  have hM7 := hM.e
  have hM4 := hM.r
  have hM1 := hM.1
  have hM2 := hM.2
  have ht7 := trn_lt σ
  obtain ⟨H, hH⟩ : ∃ H, H = st.heap := ⟨_, rfl⟩
  obtain ⟨locs, hlo⟩ : ∃ locs : List Loc, locs = [] := ⟨_, rfl⟩
  have hP : va_P G.1 vwCl (wL G q σ) H := by rw [hH]; exact hP
  have hS : va_S (zA (wL G q σ)) st.heap H locs := by rw [hH, hlo]; exact hS
  suffices hgo : W pr l en (zRm 6 147) st mi ar bl me cd H locs 0 0 Q (F0 mi 0 ls []) by rw [hH, hlo] at hgo; exact hgo
  clear hH hlo
  refine lv_aload_n hx hb dL_keeps_0 rfl (lv_at hl 0 rfl) ?_
  refine lv_aload_n hx hb dL_keeps_1 rfl (lv_at hl 2 rfl) ?_
  refine lv_aload_n hx hb dL_keeps_2 rfl (lv_at hl 3 rfl) ?_
  refine zrdS (As := [.ref (q 0), .ref (q 2), .ref (q 3)]) ⟨hx, hb, hml, hown, hts⟩ (kL_torn l G q σ (hO) (hM)) (va_cwS 3 hts gL_keeps_L_torn rfl rfl rfl (by decide +kernel) ⟨Nat.le_of_ble_eq_true rfl, Nat.le_of_ble_eq_true rfl⟩) hG (hP) rfl rfl hl.1 dL_keeps_3 (Nat.le_of_ble_eq_true rfl) ⟨Nat.le_of_ble_eq_true rfl, Nat.le_of_ble_eq_true rfl⟩ ?_
  refine lv_istore (lv' := [(9, .int (nI (trn σ))), (0, .ref (q 0)), (1, .ref (q 1)), (2, .ref (q 2)), (3, .ref (q 3)), (4, .int (nI k)), (5, .int (nI 0)), (6, .long (lN hv)), (8, .int (nI 1))]) hx hb dL_keeps_6 hl (by decide) rfl (fun ls hl => ?_)
  refine lv_iload hx hb dL_keeps_8 (lv_at hl 0 rfl) ?_
  refine lv_if_le (tgt := 58) hx hb dL_keeps_10 (by decide) (fun h10 => ?_) (fun h10 => ?_)
  · skip
    have h10 : (trn σ) = 0 := (z_le0 (by omega)).mp h10
    exfalso; omega
  · skip
    have h10 : ¬ ((trn σ) = 0) := fun q => h10 ((z_le0 (by omega)).mpr q)
    have h10 : 0 < (trn σ) := Nat.pos_of_ne_zero h10
    refine lv_aload_n hx hb dL_keeps_13 rfl (lv_at hl 1 rfl) ?_
    refine lv_iconst (v := nI 2) hx hb dL_keeps_14 (by decide) ?_
    refine va_iald hx hb hG.1 hP 0 0 rfl rfl (vp_in_nI (n := 2) (N := 5) (by omega) (by omega)) dL_keeps_15 ?_
    refine lv_topi (nm_r (e' := nI (σ 2)) (by rw [nI_clamp (by omega)]; exact if_neg (by omega)) ?_)
    refine lv_iconst (v := nI 1) hx hb dL_keeps_16 (by decide) ?_
    refine lv_icmp_ne (tgt := 58) hx hb dL_keeps_17 (by decide) (fun h17 => ?_) (fun h17 => ?_)
    · skip
      have h17 : ¬ ((σ 2) = 1) := fun q => h17 ((nI_eq (by omega) (by omega)).mpr q)
      exact absurd h2r h17
    · skip
      have h17 : (σ 2) = 1 := (nI_eq (by omega) (by omega)).mp h17
      refine lv_aload_n hx hb dL_keeps_20 rfl (lv_at hl 3 rfl) ?_
      refine lv_iload hx hb dL_keeps_21 (lv_at hl 6 rfl) ?_
      refine lv_iload hx hb dL_keeps_23 (lv_at hl 8 rfl) ?_
      refine lv_if_eq (tgt := 35) hx hb dL_keeps_25 (by decide) (fun h25 => ?_) (fun h25 => ?_)
      · skip
        have h25 : 1 = 0 := (z_eq0 (by omega)).mp h25
        exfalso; omega
      · skip
        have h25 : ¬ (1 = 0) := fun q => h25 ((z_eq0 (by omega)).mpr q)
        have h25 : 0 < 1 := Nat.pos_of_ne_zero h25
        refine lv_aload_n hx hb dL_keeps_28 rfl (lv_at hl 3 rfl) ?_
        refine lv_iload hx hb dL_keeps_29 (lv_at hl 6 rfl) ?_
        refine va_lald hx hb hG.1 hP 2 3 rfl rfl (vp_in_nI (n := 0) (N := 24) (by omega) (by omega)) dL_keeps_31 ?_
        refine lv_topl (nm_r (e' := (aF σ 0)) (by rw [nI_clamp (by omega)]) ?_)
        refine lv_goto (tgt := 37) hx hb dL_keeps_32 (by decide) ?_
        refine va_last hx hb hG.1 hP hD hS 2 3 rfl rfl (vp_in_nI (n := 0) (N := 24) (by omega) (by omega)) dL_keeps_37 (fun H locs hP hD hS => ?_)
        rw [nI_clamp (show 0 < 2 ^ 31 by omega)] at hP hD
        have hP : va_P G.1 vwCl (wL0 G q (gF σ) (rF σ) (vp_updL (aF σ) 0 (aF σ 0)) (bF σ)) H := hP
        have hD : va_D (zA (wL G q σ)) (wL0 G q (gF σ) (rF σ) (vp_updL (aF σ) 0 (aF σ 0)) (bF σ)) := hD
        refine lv_aload_n hx hb dL_keeps_38 rfl (lv_at hl 4 rfl) ?_
        refine lv_iload hx hb dL_keeps_39 (lv_at hl 5 rfl) ?_
        refine lv_iload hx hb dL_keeps_41 (lv_at hl 8 rfl) ?_
        refine lv_if_eq (tgt := 51) hx hb dL_keeps_43 (by decide) (fun h43 => ?_) (fun h43 => ?_)
        · skip
          have h43 : 1 = 0 := (z_eq0 (by omega)).mp h43
          exfalso; omega
        · skip
          have h43 : ¬ (1 = 0) := fun q => h43 ((z_eq0 (by omega)).mpr q)
          have h43 : 0 < 1 := Nat.pos_of_ne_zero h43
          refine lv_lload hx hb dL_keeps_46 (lv_at hl 7 rfl) ?_
          refine lv_goto (tgt := 55) hx hb dL_keeps_48 (by decide) ?_
          refine va_last hx hb hG.1 hP hD hS 3 3 rfl rfl (vp_in_nI (n := k) (N := 6) (by omega) (by omega)) dL_keeps_55 (fun H locs hP hD hS => ?_)
          rw [nI_clamp (show k < 2 ^ 31 by omega)] at hP hD
          have hP : va_P G.1 vwCl (wL0 G q (gF σ) (rF σ) (vp_updL (aF σ) 0 (aF σ 0)) (vp_updL (bF σ) k (lN hv))) H := hP
          have hD : va_D (zA (wL G q σ)) (wL0 G q (gF σ) (rF σ) (vp_updL (aF σ) 0 (aF σ 0)) (vp_updL (bF σ) k (lN hv))) := hD
          refine lv_iconst (v := nI 0) hx hb dL_keeps_56 (by decide) ?_
          exact hret _ _ _ _ _ dL_keeps_57 hS (wL_x0 e1 e2 (fun j hj => by rw [updL_self]; exact e3 j hj) e4 hP) (z_f (id))
set_option maxHeartbeats 8000000 in
set_option maxRecDepth 100000 in
theorem kL_edgeAt (l : Launch) (G : zG) (q : Nat → Nat) (σ : Nat → Nat) {N : Nat} (k d : Nat) (hO : Ok N σ) (hM : Sml σ) (hk : k < nS σ) (hd4 : d < 4) : Met l yL_edgeAt wsL_edgeAt (zRm 1 26) (zPc G [.ref (q 0), .int (nI k), .int (nI d)] (va_P G.1 vwCl (wL G q σ))) (zS (.int (zc 60 (eO σ k d)))) 0 0 (fun _ => False) := by
  refine zmkI (cc := cL_edgeAt) (maxL := 7) (by decide) rfl (Nat.le_of_ble_eq_true rfl) ?_
  intro pr en st mi ar bl me cd ls Q hx hb hml hown hts hG hP hl hret
  have hown : st.vm.findClass RL = some mi.cls := hown
  have hl : lv_has ls 7 [(0, .ref (q 0)), (1, .int (nI k)), (2, .int (nI d))] := hl
  have hP : va_P G.1 vwCl (wL G q σ) st.heap := hP
  have hc := hO.c
  have hs := hO.lS
  have hne := hO.lE
  have hM6 := hM.s
  have hM7 := hM.e
  have hM4 := hM.r
  have hM1 := hM.1
  have hM2 := hM.2
  refine lv_bipush (v := (-4)) hx hb dL_edgeAt_0 (by decide) ?_
  refine lv_topi (nm_r (e' := (zc 60 (gFA (σ 0) (σ 1) k d 0))) ((zc_b 60).symm) ?_)
  refine lv_istore_n (lv' := [(3, .int (zc 60 (gFA (σ 0) (σ 1) k d 0))), (0, .ref (q 0)), (1, .int (nI k)), (2, .int (nI d))]) hx hb dL_edgeAt_2 rfl hl (by decide) rfl (fun ls hl => ?_)
  refine lv_iconst (v := nI 0) hx hb dL_edgeAt_3 (by decide) ?_
  refine lv_istore (lv' := [(4, .int (nI 0)), (3, .int (zc 60 (gFA (σ 0) (σ 1) k d 0))), (0, .ref (q 0)), (1, .int (nI k)), (2, .int (nI d))]) hx hb dL_edgeAt_4 hl (by decide) rfl (fun ls hl => ?_)
  have loop6 : ∀ (m : Nat) (e : Nat) (he : e ≤ nE σ) (hm : nE σ < e + m) (ls : Array Slot) (hl : lv_has ls 7 [(0, .ref (q 0)), (1, .int (nI k)), (2, .int (nI d)), (3, .int (zc 60 (gFA (σ 0) (σ 1) k d e))), (4, .int (nI e))]), W pr l en (zRm 1 26) st mi ar bl me cd st.heap [] 0 0 Q (F0 mi 6 ls []) := by
    intro m
    induction m with
    | zero => intro e he hm ls hl; exfalso; omega
    | succ m ih6 =>
      intro e he hm ls hl
      refine lv_aload_n hx hb dL_edgeAt_6 rfl (lv_at hl 0 rfl) ?_
      refine lv_iload hx hb dL_edgeAt_7 (lv_at hl 4 rfl) ?_
      refine zrdS (As := [.ref (q 0), .int (nI e)]) ⟨hx, hb, hml, hown, hts⟩ (kL_edge l G q σ e (hO) (hM) (by omega)) (va_cwS 2 hts gL_edgeAt_L_edge rfl rfl rfl (by decide +kernel) ⟨Nat.le_of_ble_eq_true rfl, Nat.le_of_ble_eq_true rfl⟩) hG (hP) rfl rfl hl.1 dL_edgeAt_9 (Nat.le_of_ble_eq_true rfl) ⟨Nat.le_of_ble_eq_true rfl, Nat.le_of_ble_eq_true rfl⟩ ?_
      refine lv_if_lt (tgt := 134) hx hb dL_edgeAt_12 (by decide) (fun h12 => ?_) (fun h12 => ?_)
      · skip
        have h12 : nE σ ≤ e := (eL_lt hO hM).mp h12
        refine lv_iload_n hx hb dL_edgeAt_134 rfl (lv_at hl 3 rfl) ?_
        exact hret _ _ _ dL_edgeAt_135 (by obtain rfl : e = nE σ := (by omega); rw [its_at hO hM hk hd4])
      · skip
        have h12 : ¬ (nE σ ≤ e) := fun q => h12 ((eL_lt hO hM).mpr q)
        refine lv_aload_n hx hb dL_edgeAt_15 rfl (lv_at hl 0 rfl) ?_
        refine lv_iload hx hb dL_edgeAt_16 (lv_at hl 4 rfl) ?_
        refine zrdS (As := [.ref (q 0), .int (nI e)]) ⟨hx, hb, hml, hown, hts⟩ (kL_edge l G q σ e (hO) (hM) (by omega)) (va_cwS 2 hts gL_edgeAt_L_edge rfl rfl rfl (by decide +kernel) ⟨Nat.le_of_ble_eq_true rfl, Nat.le_of_ble_eq_true rfl⟩) hG (hP) rfl rfl hl.1 dL_edgeAt_18 (Nat.le_of_ble_eq_true rfl) ⟨Nat.le_of_ble_eq_true rfl, Nat.le_of_ble_eq_true rfl⟩ ?_
        refine lv_topi (nm_r (e' := (nI (its σ e))) (eL_in (by omega)) ?_)
        have h10 := its_10 hO hM (show e < nE σ by omega)
        have hff := its_f hO hM (show e < nE σ by omega)
        refine lv_istore (lv' := [(5, .int (nI (its σ e))), (0, .ref (q 0)), (1, .int (nI k)), (2, .int (nI d)), (3, .int (zc 60 (gFA (σ 0) (σ 1) k d e))), (4, .int (nI e))]) hx hb dL_edgeAt_21 hl (by decide) rfl (fun ls hl => ?_)
        have mg23 : W pr l en (zRm 1 26) st mi ar bl me cd st.heap [] 0 0 Q (F0 mi 114 ls [.int (if gAt (σ 0) (σ 1) k d e = true then 1 else 0)]) := by
          refine lv_istore (lv' := [(6, .int (if gAt (σ 0) (σ 1) k d e = true then 1 else 0)), (5, .int (nI (its σ e))), (0, .ref (q 0)), (1, .int (nI k)), (2, .int (nI d)), (3, .int (zc 60 (gFA (σ 0) (σ 1) k d e))), (4, .int (nI e))]) hx hb dL_edgeAt_114 hl (by decide) rfl (fun ls hl => ?_)
          refine lv_iload hx hb dL_edgeAt_116 (lv_at hl 0 rfl) ?_
          refine lv_if_eq (tgt := 126) hx hb dL_edgeAt_118 (by decide) (fun h118 => ?_) (fun h118 => ?_)
          · skip
            have h118 : ¬ (gAt (σ 0) (σ 1) k d e = true) := (z_b0).mp h118
            refine lv_iload_n hx hb dL_edgeAt_126 rfl (lv_at hl 5 rfl) ?_
            refine lv_topi (nm_r (e' := (zc 60 (gFA (σ 0) (σ 1) k d (e + 1)))) (by rw [gFA, if_neg h118]) ?_)
            refine lv_istore_n (lv' := [(3, .int (zc 60 (gFA (σ 0) (σ 1) k d (e + 1)))), (6, .int (if gAt (σ 0) (σ 1) k d e = true then 1 else 0)), (5, .int (nI (its σ e))), (0, .ref (q 0)), (1, .int (nI k)), (2, .int (nI d)), (4, .int (nI e))]) hx hb dL_edgeAt_127 rfl hl (by decide) rfl (fun ls hl => ?_)
            refine lv_iinc (v := nI (e + 1)) (lv' := [(4, .int (nI (e + 1))), (3, .int (zc 60 (gFA (σ 0) (σ 1) k d (e + 1)))), (6, .int (if gAt (σ 0) (σ 1) k d e = true then 1 else 0)), (5, .int (nI (its σ e))), (0, .ref (q 0)), (1, .int (nI k)), (2, .int (nI d))]) hx hb dL_edgeAt_128 hl (k := 6) rfl (zinc1 _) (by decide) rfl (fun ls hl => ?_)
            refine lv_goto (tgt := 6) hx hb dL_edgeAt_131 (by decide) ?_
            exact ih6 (e + 1) (by omega) (by omega) _ (lv_sub hl [4, 5, 6, 1, 0] rfl)
          · skip
            have h118 : ¬ (¬ (gAt (σ 0) (σ 1) k d e = true)) := fun q => h118 ((z_b0).mpr q)
            have h118 : gAt (σ 0) (σ 1) k d e = true := Decidable.of_not_not h118
            refine lv_iload hx hb dL_edgeAt_121 (lv_at hl 6 rfl) ?_
            refine lv_topi (nm_r (e' := (zc 60 (gFA (σ 0) (σ 1) k d (e + 1)))) (by rw [gFA, if_pos h118, zc_n (by omega)]) ?_)
            refine lv_goto (tgt := 127) hx hb dL_edgeAt_123 (by decide) ?_
            refine lv_istore_n (lv' := [(3, .int (zc 60 (gFA (σ 0) (σ 1) k d (e + 1)))), (6, .int (if gAt (σ 0) (σ 1) k d e = true then 1 else 0)), (5, .int (nI (its σ e))), (0, .ref (q 0)), (1, .int (nI k)), (2, .int (nI d)), (4, .int (nI e))]) hx hb dL_edgeAt_127 rfl hl (by decide) rfl (fun ls hl => ?_)
            refine lv_iinc (v := nI (e + 1)) (lv' := [(4, .int (nI (e + 1))), (3, .int (zc 60 (gFA (σ 0) (σ 1) k d (e + 1)))), (6, .int (if gAt (σ 0) (σ 1) k d e = true then 1 else 0)), (5, .int (nI (its σ e))), (0, .ref (q 0)), (1, .int (nI k)), (2, .int (nI d))]) hx hb dL_edgeAt_128 hl (k := 6) rfl (zinc1 _) (by decide) rfl (fun ls hl => ?_)
            refine lv_goto (tgt := 6) hx hb dL_edgeAt_131 (by decide) ?_
            exact ih6 (e + 1) (by omega) (by omega) _ (lv_sub hl [4, 5, 6, 1, 0] rfl)
        refine lv_iload_n hx hb dL_edgeAt_23 rfl (lv_at hl 3 rfl) ?_
        refine lv_iconst (v := nI 1) hx hb dL_edgeAt_24 (by decide) ?_
        refine lv_icmp_ne (tgt := 42) hx hb dL_edgeAt_25 (by decide) (fun h25 => ?_) (fun h25 => ?_)
        · skip
          have h25 : ¬ (d = 1) := fun q => h25 ((nI_eq (by omega) (by omega)).mpr q)
          refine lv_iload_n hx hb dL_edgeAt_42 rfl (lv_at hl 3 rfl) ?_
          refine lv_iconst (v := nI 2) hx hb dL_edgeAt_43 (by decide) ?_
          refine lv_icmp_ne (tgt := 64) hx hb dL_edgeAt_44 (by decide) (fun h44 => ?_) (fun h44 => ?_)
          · skip
            have h44 : ¬ (d = 2) := fun q => h44 ((nI_eq (by omega) (by omega)).mpr q)
            refine lv_iload_n hx hb dL_edgeAt_64 rfl (lv_at hl 3 rfl) ?_
            refine lv_iconst (v := nI 3) hx hb dL_edgeAt_65 (by decide) ?_
            refine lv_icmp_ne (tgt := 92) hx hb dL_edgeAt_66 (by decide) (fun h66 => ?_) (fun h66 => ?_)
            · skip
              have h66 : ¬ (d = 3) := fun q => h66 ((nI_eq (by omega) (by omega)).mpr q)
              refine lv_iload hx hb dL_edgeAt_92 (lv_at hl 0 rfl) ?_
              refine lv_bipush (v := nI 9) hx hb dL_edgeAt_94 (by decide) ?_
              refine lv_icmp_le (tgt := 113) hx hb dL_edgeAt_96 (by decide) (fun h96 => ?_) (fun h96 => ?_)
              · skip
                have h96 : (its σ e) ≤ 9 := (nI_leI (by omega) (by omega)).mp h96
                refine lv_iconst (v := nI 0) hx hb dL_edgeAt_113 (by decide) ?_
                refine lv_topi (nm_r (e' := (if gAt (σ 0) (σ 1) k d e = true then 1 else 0)) (z_f (fun z => by unfold gAt at z; rw [if_neg h25, if_neg h44, if_neg h66] at z; have z := of_decide_eq_true z; exact absurd z.1 (show ¬ 9 < its σ e by omega))) ?_)
                exact mg23
              · skip
                have h96 : ¬ ((its σ e) ≤ 9) := fun q => h96 ((nI_leI (by omega) (by omega)).mpr q)
                refine lv_aload_n hx hb dL_edgeAt_99 rfl (lv_at hl 1 rfl) ?_
                refine lv_iload hx hb dL_edgeAt_100 (lv_at hl 0 rfl) ?_
                refine zrdS (As := [.ref (q 0), .int (nI (its σ e))]) ⟨hx, hb, hml, hown, hts⟩ (kL_other l G q σ e (hO) (hM) (by omega)) (va_cwS 2 hts gL_edgeAt_L_other rfl rfl rfl (by decide +kernel) ⟨Nat.le_of_ble_eq_true rfl, Nat.le_of_ble_eq_true rfl⟩) hG (hP) rfl rfl hl.1 dL_edgeAt_102 (Nat.le_of_ble_eq_true rfl) ⟨Nat.le_of_ble_eq_true rfl, Nat.le_of_ble_eq_true rfl⟩ ?_
                refine lv_iload_n hx hb dL_edgeAt_105 rfl (lv_at hl 2 rfl) ?_
                refine lv_icmp_ne (tgt := 113) hx hb dL_edgeAt_106 (by decide) (fun h106 => ?_) (fun h106 => ?_)
                · skip
                  have h106 : ¬ ((sS σ e) = k) := fun q => h106 ((nI_eq (by omega) (by omega)).mpr q)
                  refine lv_iconst (v := nI 0) hx hb dL_edgeAt_113 (by decide) ?_
                  refine lv_topi (nm_r (e' := (if gAt (σ 0) (σ 1) k d e = true then 1 else 0)) (z_f (fun z => by unfold gAt at z; rw [if_neg h25, if_neg h44, if_neg h66] at z; have z := of_decide_eq_true z; exact absurd z.2 h106)) ?_)
                  exact mg23
                · skip
                  have h106 : (sS σ e) = k := (nI_eq (by omega) (by omega)).mp h106
                  refine lv_iconst (v := nI 1) hx hb dL_edgeAt_109 (by decide) ?_
                  refine lv_goto (tgt := 114) hx hb dL_edgeAt_110 (by decide) ?_
                  refine lv_topi (nm_r (e' := (if gAt (σ 0) (σ 1) k d e = true then 1 else 0)) (z_t (by unfold gAt; rw [if_neg h25, if_neg h44, if_neg h66]; exact decide_eq_true ⟨(show 9 < its σ e by omega), h106⟩)) ?_)
                  exact mg23
            · skip
              have h66 : d = 3 := (nI_eq (by omega) (by omega)).mp h66
              refine lv_iload hx hb dL_edgeAt_69 (lv_at hl 0 rfl) ?_
              refine lv_bipush (v := nI 10) hx hb dL_edgeAt_71 (by decide) ?_
              refine lv_icmp_ge (tgt := 88) hx hb dL_edgeAt_73 (by decide) (fun h73 => ?_) (fun h73 => ?_)
              · skip
                have h73 : 10 ≤ (its σ e) := (nI_leI (by omega) (by omega)).mp h73
                refine lv_iconst (v := nI 0) hx hb dL_edgeAt_88 (by decide) ?_
                refine lv_goto (tgt := 114) hx hb dL_edgeAt_89 (by decide) ?_
                refine lv_topi (nm_r (e' := (if gAt (σ 0) (σ 1) k d e = true then 1 else 0)) (z_f (fun z => by unfold gAt at z; rw [if_neg h25, if_neg h44, if_pos h66] at z; have z := of_decide_eq_true z; exact absurd z.1 (show ¬ its σ e < 10 by omega))) ?_)
                exact mg23
              · skip
                have h73 : ¬ (10 ≤ (its σ e)) := fun q => h73 ((nI_leI (by omega) (by omega)).mpr q)
                refine lv_iload hx hb dL_edgeAt_76 (lv_at hl 0 rfl) ?_
                refine lv_iconst (v := nI 1) hx hb dL_edgeAt_78 (by decide) ?_
                refine lv_iadd hx hb dL_edgeAt_79 ?_
                refine lv_topi (nm_r (e' := nI ((its σ e) + 1)) (nI_add _ _) ?_)
                refine lv_iload_n hx hb dL_edgeAt_80 rfl (lv_at hl 2 rfl) ?_
                refine lv_icmp_ne (tgt := 88) hx hb dL_edgeAt_81 (by decide) (fun h81 => ?_) (fun h81 => ?_)
                · skip
                  have h81 : ¬ (((its σ e) + 1) = k) := fun q => h81 ((nI_eq (by omega) (by omega)).mpr q)
                  refine lv_iconst (v := nI 0) hx hb dL_edgeAt_88 (by decide) ?_
                  refine lv_goto (tgt := 114) hx hb dL_edgeAt_89 (by decide) ?_
                  refine lv_topi (nm_r (e' := (if gAt (σ 0) (σ 1) k d e = true then 1 else 0)) (z_f (fun z => by unfold gAt at z; rw [if_neg h25, if_neg h44, if_pos h66] at z; have z := of_decide_eq_true z; exact absurd z.2 h81)) ?_)
                  exact mg23
                · skip
                  have h81 : ((its σ e) + 1) = k := (nI_eq (by omega) (by omega)).mp h81
                  refine lv_iconst (v := nI 1) hx hb dL_edgeAt_84 (by decide) ?_
                  refine lv_goto (tgt := 114) hx hb dL_edgeAt_85 (by decide) ?_
                  refine lv_topi (nm_r (e' := (if gAt (σ 0) (σ 1) k d e = true then 1 else 0)) (z_t (by unfold gAt; rw [if_neg h25, if_neg h44, if_pos h66]; exact decide_eq_true ⟨(show its σ e < 10 by omega), h81⟩)) ?_)
                  exact mg23
          · skip
            have h44 : d = 2 := (nI_eq (by omega) (by omega)).mp h44
            refine lv_iload hx hb dL_edgeAt_47 (lv_at hl 0 rfl) ?_
            refine lv_bipush (v := nI 10) hx hb dL_edgeAt_49 (by decide) ?_
            refine lv_iload_n hx hb dL_edgeAt_51 rfl (lv_at hl 2 rfl) ?_
            refine lv_iadd hx hb dL_edgeAt_52 ?_
            refine lv_topi (nm_r (e' := nI (10 + k)) (nI_add _ _) ?_)
            refine lv_icmp_ne (tgt := 60) hx hb dL_edgeAt_53 (by decide) (fun h53 => ?_) (fun h53 => ?_)
            · skip
              have h53 : ¬ ((its σ e) = (10 + k)) := fun q => h53 ((nI_eq (by omega) (by omega)).mpr q)
              refine lv_iconst (v := nI 0) hx hb dL_edgeAt_60 (by decide) ?_
              refine lv_goto (tgt := 114) hx hb dL_edgeAt_61 (by decide) ?_
              refine lv_topi (nm_r (e' := (if gAt (σ 0) (σ 1) k d e = true then 1 else 0)) (z_f (fun z => by unfold gAt at z; rw [if_neg h25, if_pos h44] at z; have z := of_decide_eq_true z; exact absurd z h53)) ?_)
              exact mg23
            · skip
              have h53 : (its σ e) = (10 + k) := (nI_eq (by omega) (by omega)).mp h53
              refine lv_iconst (v := nI 1) hx hb dL_edgeAt_56 (by decide) ?_
              refine lv_goto (tgt := 114) hx hb dL_edgeAt_57 (by decide) ?_
              refine lv_topi (nm_r (e' := (if gAt (σ 0) (σ 1) k d e = true then 1 else 0)) (z_t (by unfold gAt; rw [if_neg h25, if_pos h44]; exact decide_eq_true h53)) ?_)
              exact mg23
        · skip
          have h25 : d = 1 := (nI_eq (by omega) (by omega)).mp h25
          refine lv_iload hx hb dL_edgeAt_28 (lv_at hl 0 rfl) ?_
          refine lv_iload_n hx hb dL_edgeAt_30 rfl (lv_at hl 2 rfl) ?_
          refine lv_icmp_ne (tgt := 38) hx hb dL_edgeAt_31 (by decide) (fun h31 => ?_) (fun h31 => ?_)
          · skip
            have h31 : ¬ ((its σ e) = k) := fun q => h31 ((nI_eq (by omega) (by omega)).mpr q)
            refine lv_iconst (v := nI 0) hx hb dL_edgeAt_38 (by decide) ?_
            refine lv_goto (tgt := 114) hx hb dL_edgeAt_39 (by decide) ?_
            refine lv_topi (nm_r (e' := (if gAt (σ 0) (σ 1) k d e = true then 1 else 0)) (z_f (fun z => by unfold gAt at z; rw [if_pos h25] at z; have z := of_decide_eq_true z; exact absurd z h31)) ?_)
            exact mg23
          · skip
            have h31 : (its σ e) = k := (nI_eq (by omega) (by omega)).mp h31
            refine lv_iconst (v := nI 1) hx hb dL_edgeAt_34 (by decide) ?_
            refine lv_goto (tgt := 114) hx hb dL_edgeAt_35 (by decide) ?_
            refine lv_topi (nm_r (e' := (if gAt (σ 0) (σ 1) k d e = true then 1 else 0)) (z_t (by unfold gAt; rw [if_pos h25]; exact decide_eq_true h31)) ?_)
            exact mg23
  exact loop6 (nE σ + 1) 0 (by omega) (by omega) _ (lv_sub hl [2, 3, 4, 1, 0] rfl)
set_option maxHeartbeats 8000000 in
set_option maxRecDepth 100000 in
theorem kL_block (l : Launch) (G : zG) (q : Nat → Nat) (σ : Nat → Nat) {N : Nat} (k : Nat) (hO : Ok N σ) (hM : Sml σ) (hk : k < nS σ) : Met l yL_block wsL_block (zRm 1 26) (zPc G [.ref (q 0), .int (nI k)] (va_P G.1 vwCl (wL G q σ))) (zS (.int (nI (blk σ (nE σ) k)))) 0 0 (fun _ => False) := by
  refine zmkI (cc := cL_block) (maxL := 7) (by decide) rfl (Nat.le_of_ble_eq_true rfl) ?_
  intro pr en st mi ar bl me cd ls Q hx hb hml hown hts hG hP hl hret
  have hown : st.vm.findClass RL = some mi.cls := hown
  have hl : lv_has ls 7 [(0, .ref (q 0)), (1, .int (nI k))] := hl
  have hP : va_P G.1 vwCl (wL G q σ) st.heap := hP
  have hc := hO.c
  have hs := hO.lS
  have hne := hO.lE
  have hM6 := hM.s
  have hM7 := hM.e
  have hM4 := hM.r
  have hM1 := hM.1
  have hM2 := hM.2
  have hk2 : 2 ^ k < 2 ^ 6 := Nat.pow_lt_pow_right (by omega) (show k < 6 by omega)
  have hbk := blk_le σ (nE σ) k
  have hbi := bl_is hO hM hk
  refine lv_iconst (v := nI 1) hx hb dL_block_0 (by decide) ?_
  refine lv_iload_n hx hb dL_block_1 rfl (lv_at hl 1 rfl) ?_
  refine lv_ishl hx hb dL_block_2 ?_
  refine lv_topi (nm_r (e' := (nI (2 ^ k))) (b_one k (by omega)) ?_)
  refine lv_istore_n (lv' := [(2, .int (nI (2 ^ k))), (0, .ref (q 0)), (1, .int (nI k))]) hx hb dL_block_3 rfl hl (by decide) rfl (fun ls hl => ?_)
  refine lv_iconst (v := nI 0) hx hb dL_block_4 (by decide) ?_
  refine lv_istore_n (lv' := [(3, .int (nI 0)), (2, .int (nI (2 ^ k))), (0, .ref (q 0)), (1, .int (nI k))]) hx hb dL_block_5 rfl hl (by decide) rfl (fun ls hl => ?_)
  have loop6 : ∀ (m : Nat) (n : Nat) (S : Nat) (hS1 : S = bR σ (2 ^ k) n) (hn6 : n ≤ 6) (hm : 6 < n + m) (ls : Array Slot) (hl : lv_has ls 7 [(0, .ref (q 0)), (1, .int (nI k)), (2, .int (nI S)), (3, .int (nI n))]), W pr l en (zRm 1 26) st mi ar bl me cd st.heap [] 0 0 Q (F0 mi 6 ls []) := by
    intro m
    induction m with
    | zero => intro n S hS1 hn6 hm ls hl; exfalso; omega
    | succ m ih6 =>
      intro n S hS1 hn6 hm ls hl
      have hS64 : S < 64 := by rw [hS1]; exact bR_lt hO hM (by omega) n
      refine lv_iload_n hx hb dL_block_6 rfl (lv_at hl 3 rfl) ?_
      refine lv_bipush (v := nI 6) hx hb dL_block_7 (by decide) ?_
      refine lv_icmp_ge (tgt := 90) hx hb dL_block_9 (by decide) (fun h9 => ?_) (fun h9 => ?_)
      · skip
        have h9 : 6 ≤ n := (nI_leI (by omega) (by omega)).mp h9
        obtain rfl : n = 6 := by omega
        refine lv_iconst (v := nI 0) hx hb dL_block_90 (by decide) ?_
        refine lv_istore_n (lv' := [(3, .int (nI 0)), (0, .ref (q 0)), (1, .int (nI k)), (2, .int (nI S))]) hx hb dL_block_91 rfl hl (by decide) rfl (fun ls hl => ?_)
        have loop92 : ∀ (u : Nat) (j : Nat) (hj : j ≤ blk σ (nE σ) k) (hu : blk σ (nE σ) k < j + u) (ls : Array Slot) (hl : lv_has ls 7 [(0, .ref (q 0)), (1, .int (nI k)), (2, .int (nI S)), (3, .int (nI j))]), W pr l en (zRm 1 26) st mi ar bl me cd st.heap [] 0 0 Q (F0 mi 92 ls []) := by
          intro u
          induction u with
          | zero => intro j hj hu ls hl; exfalso; omega
          | succ u ih92 =>
            intro j hj hu ls hl
            refine lv_iload_n hx hb dL_block_92 rfl (lv_at hl 2 rfl) ?_
            refine lv_iload_n hx hb dL_block_93 rfl (lv_at hl 3 rfl) ?_
            refine lv_ishr hx hb dL_block_94 ?_
            refine lv_iconst (v := nI 1) hx hb dL_block_95 (by decide) ?_
            refine lv_iand hx hb dL_block_96 ?_
            refine lv_topi (nm_r (e' := (nI (S / 2 ^ j % 2))) (b_get S (by omega) j (by omega)) ?_)
            refine lv_if_ne (tgt := 106) hx hb dL_block_97 (by decide) (fun h97 => ?_) (fun h97 => ?_)
            · skip
              have h97 : ¬ ((S / 2 ^ j % 2) = 0) := fun q => h97 ((z_eq0 (by omega)).mpr q)
              have h97 : 0 < (S / 2 ^ j % 2) := Nat.pos_of_ne_zero h97
              refine lv_iload_n hx hb dL_block_106 rfl (lv_at hl 3 rfl) ?_
              exact hret _ _ _ dL_block_107 (by have hz : ¬ j < blk σ (nE σ) k := (fun z => by have hbz := hbi.2 j z; rw [← hS1] at hbz; omega); rw [show j = blk σ (nE σ) k by omega])
            · skip
              have h97 : (S / 2 ^ j % 2) = 0 := (z_eq0 (by omega)).mp h97
              refine lv_iinc (v := nI (j + 1)) (lv' := [(3, .int (nI (j + 1))), (0, .ref (q 0)), (1, .int (nI k)), (2, .int (nI S))]) hx hb dL_block_100 hl (k := 3) rfl (zinc1 _) (by decide) rfl (fun ls hl => ?_)
              refine lv_goto (tgt := 92) hx hb dL_block_103 (by decide) ?_
              have hz : j ≠ blk σ (nE σ) k := fun z => by have hbz := hbi.1; rw [← hS1, ← z] at hbz; omega
              exact ih92 (j + 1) (by omega) (by omega) _ (lv_sub hl [1, 2, 3, 0] rfl)
        exact loop92 (blk σ (nE σ) k + 1) 0 (by omega) (by omega) _ (lv_sub hl [1, 2, 3, 0] rfl)
      · skip
        have h9 : ¬ (6 ≤ n) := fun q => h9 ((nI_leI (by omega) (by omega)).mpr q)
        refine lv_iconst (v := nI 0) hx hb dL_block_12 (by decide) ?_
        refine lv_istore (lv' := [(4, .int (nI 0)), (0, .ref (q 0)), (1, .int (nI k)), (2, .int (nI S)), (3, .int (nI n))]) hx hb dL_block_13 hl (by decide) rfl (fun ls hl => ?_)
        have loop15 : ∀ (w : Nat) (e : Nat) (U : Nat) (hU : U = bE σ S e) (he : e ≤ nE σ) (hw : nE σ < e + w) (ls : Array Slot) (hl : lv_has ls 7 [(0, .ref (q 0)), (1, .int (nI k)), (2, .int (nI U)), (3, .int (nI n)), (4, .int (nI e))]), W pr l en (zRm 1 26) st mi ar bl me cd st.heap [] 0 0 Q (F0 mi 15 ls []) := by
          intro w
          induction w with
          | zero => intro e U hU he hw ls hl; exfalso; omega
          | succ w ih15 =>
            intro e U hU he hw ls hl
            have hU64 : U < 64 := by rw [hU]; exact bE_lt hO hM hS64 e he
            refine lv_aload_n hx hb dL_block_15 rfl (lv_at hl 0 rfl) ?_
            refine lv_iload hx hb dL_block_16 (lv_at hl 4 rfl) ?_
            refine zrdS (As := [.ref (q 0), .int (nI e)]) ⟨hx, hb, hml, hown, hts⟩ (kL_edge l G q σ e (hO) (hM) (by omega)) (va_cwS 2 hts gL_block_L_edge rfl rfl rfl (by decide +kernel) ⟨Nat.le_of_ble_eq_true rfl, Nat.le_of_ble_eq_true rfl⟩) hG (hP) rfl rfl hl.1 dL_block_18 (Nat.le_of_ble_eq_true rfl) ⟨Nat.le_of_ble_eq_true rfl, Nat.le_of_ble_eq_true rfl⟩ ?_
            refine lv_if_lt (tgt := 84) hx hb dL_block_21 (by decide) (fun h21 => ?_) (fun h21 => ?_)
            · skip
              have h21 : nE σ ≤ e := (eL_lt hO hM).mp h21
              refine lv_iinc (v := nI (n + 1)) (lv' := [(3, .int (nI (n + 1))), (0, .ref (q 0)), (1, .int (nI k)), (2, .int (nI U)), (4, .int (nI e))]) hx hb dL_block_84 hl (k := 3) rfl (zinc1 _) (by decide) rfl (fun ls hl => ?_)
              refine lv_goto (tgt := 6) hx hb dL_block_87 (by decide) ?_
              obtain rfl : e = nE σ := by omega
              exact ih6 (n + 1) U (by rw [hU, hS1]; rfl) (by omega) (by omega) _ (lv_sub hl [1, 2, 3, 0] rfl)
            · skip
              have h21 : ¬ (nE σ ≤ e) := fun q => h21 ((eL_lt hO hM).mpr q)
              refine lv_aload_n hx hb dL_block_24 rfl (lv_at hl 0 rfl) ?_
              refine lv_iload hx hb dL_block_25 (lv_at hl 4 rfl) ?_
              refine zrdS (As := [.ref (q 0), .int (nI e)]) ⟨hx, hb, hml, hown, hts⟩ (kL_edge l G q σ e (hO) (hM) (by omega)) (va_cwS 2 hts gL_block_L_edge rfl rfl rfl (by decide +kernel) ⟨Nat.le_of_ble_eq_true rfl, Nat.le_of_ble_eq_true rfl⟩) hG (hP) rfl rfl hl.1 dL_block_27 (Nat.le_of_ble_eq_true rfl) ⟨Nat.le_of_ble_eq_true rfl, Nat.le_of_ble_eq_true rfl⟩ ?_
              refine lv_topi (nm_r (e' := (nI (its σ e))) (eL_in (by omega)) ?_)
              have hff := its_f hO hM (show e < nE σ by omega)
              have h10 := its_10 hO hM (show e < nE σ by omega)
              refine lv_istore (lv' := [(5, .int (nI (its σ e))), (0, .ref (q 0)), (1, .int (nI k)), (2, .int (nI U)), (3, .int (nI n)), (4, .int (nI e))]) hx hb dL_block_30 hl (by decide) rfl (fun ls hl => ?_)
              refine lv_iconst (v := nI 1) hx hb dL_block_32 (by decide) ?_
              refine lv_iload hx hb dL_block_33 (lv_at hl 0 rfl) ?_
              refine lv_bipush (v := nI 10) hx hb dL_block_35 (by decide) ?_
              refine lv_irem hx hb dL_block_37 (nI_ne0 (by omega) (by omega)) ?_
              refine lv_topi (nm_r (e' := nI ((its σ e) % 10)) (pk_rem (by omega) (by omega) (by omega)) ?_)
              refine lv_topi (nm_r (e' := (nI (fS σ e))) (congrArg nI (its_10 hO hM (show e < nE σ by omega)).2.1) ?_)
              refine lv_ishl hx hb dL_block_38 ?_
              refine lv_topi (nm_r (e' := (nI (2 ^ fS σ e))) (b_one _ (by omega)) ?_)
              refine lv_iconst (v := nI 1) hx hb dL_block_39 (by decide) ?_
              refine lv_aload_n hx hb dL_block_40 rfl (lv_at hl 1 rfl) ?_
              refine lv_iload hx hb dL_block_41 (lv_at hl 0 rfl) ?_
              refine zrdS (As := [.ref (q 0), .int (nI (its σ e))]) ⟨hx, hb, hml, hown, hts⟩ (kL_other l G q σ e (hO) (hM) (by omega)) (va_cwS 2 hts gL_block_L_other rfl rfl rfl (by decide +kernel) ⟨Nat.le_of_ble_eq_true rfl, Nat.le_of_ble_eq_true rfl⟩) hG (hP) rfl rfl hl.1 dL_block_43 (Nat.le_of_ble_eq_true rfl) ⟨Nat.le_of_ble_eq_true rfl, Nat.le_of_ble_eq_true rfl⟩ ?_
              refine lv_ishl hx hb dL_block_46 ?_
              refine lv_topi (nm_r (e' := (nI (2 ^ sS σ e))) (b_one _ (by omega)) ?_)
              refine lv_ior hx hb dL_block_47 ?_
              refine lv_topi (nm_r (e' := (nI (bB σ e))) (zi_or _ _) ?_)
              refine lv_istore (lv' := [(6, .int (nI (bB σ e))), (5, .int (nI (its σ e))), (0, .ref (q 0)), (1, .int (nI k)), (2, .int (nI U)), (3, .int (nI n)), (4, .int (nI e))]) hx hb dL_block_48 hl (by decide) rfl (fun ls hl => ?_)
              refine lv_iload_n hx hb dL_block_50 rfl (lv_at hl 4 rfl) ?_
              have mg51 : W pr l en (zRm 1 26) st mi ar bl me cd st.heap [] 0 0 Q (F0 mi 76 ls [.int (nI (if agn σ e = 1 ∧ U &&& bB σ e ≠ 0 then bB σ e else 0)), .int (nI U)]) := by
                refine lv_ior hx hb dL_block_76 ?_
                refine lv_topi (nm_r (e' := (nI (bS σ U e))) (bS_or σ U e) ?_)
                refine lv_istore_n (lv' := [(2, .int (nI (bS σ U e))), (6, .int (nI (bB σ e))), (5, .int (nI (its σ e))), (0, .ref (q 0)), (1, .int (nI k)), (3, .int (nI n)), (4, .int (nI e))]) hx hb dL_block_77 rfl hl (by decide) rfl (fun ls hl => ?_)
                refine lv_iinc (v := nI (e + 1)) (lv' := [(4, .int (nI (e + 1))), (2, .int (nI (bS σ U e))), (6, .int (nI (bB σ e))), (5, .int (nI (its σ e))), (0, .ref (q 0)), (1, .int (nI k)), (3, .int (nI n))]) hx hb dL_block_78 hl (k := 6) rfl (zinc1 _) (by decide) rfl (fun ls hl => ?_)
                refine lv_goto (tgt := 15) hx hb dL_block_81 (by decide) ?_
                exact ih15 (e + 1) (bS σ U e) (by rw [hU]; rfl) (by omega) (by omega) _ (lv_sub hl [4, 5, 1, 6, 0] rfl)
              have hag := hO.ag (show e < 60 by omega)
              have hul : U &&& bB σ e ≤ U := Nat.and_le_left
              refine lv_aload_n hx hb dL_block_51 rfl (lv_at hl 2 rfl) ?_
              refine lv_iconst (v := nI 4) hx hb dL_block_52 (by decide) ?_
              refine va_iald hx hb hG.1 hP 0 0 rfl rfl (vp_in_nI (n := 4) (N := 5) (by omega) (by omega)) dL_block_53 ?_
              refine lv_topi (nm_r (e' := nI (agM σ)) (by rw [nI_clamp (by omega)]; exact if_pos rfl) ?_)
              refine lv_iload hx hb dL_block_54 (lv_at hl 6 rfl) ?_
              refine lv_ishr hx hb dL_block_56 ?_
              refine lv_iconst (v := nI 1) hx hb dL_block_57 (by decide) ?_
              refine lv_iand hx hb dL_block_58 ?_
              refine lv_topi (nm_r (e' := (nI (agn σ e))) (by rw [b_get _ (agM_lt hO) e (by omega), agM_bt hO (by omega)]) ?_)
              refine lv_iconst (v := nI 1) hx hb dL_block_59 (by decide) ?_
              refine lv_icmp_ne (tgt := 75) hx hb dL_block_60 (by decide) (fun h60 => ?_) (fun h60 => ?_)
              · skip
                have h60 : ¬ ((agn σ e) = 1) := fun q => h60 ((nI_eq (by omega) (by omega)).mpr q)
                refine lv_iconst (v := nI 0) hx hb dL_block_75 (by decide) ?_
                refine lv_topi (nm_r (e' := (nI (if agn σ e = 1 ∧ U &&& bB σ e ≠ 0 then bB σ e else 0))) (by rw [if_neg (fun z => h60 z.1)]) ?_)
                exact mg51
              · skip
                have h60 : (agn σ e) = 1 := (nI_eq (by omega) (by omega)).mp h60
                refine lv_iload_n hx hb dL_block_63 rfl (lv_at hl 4 rfl) ?_
                refine lv_iload hx hb dL_block_64 (lv_at hl 0 rfl) ?_
                refine lv_iand hx hb dL_block_66 ?_
                refine lv_topi (nm_r (e' := (nI (U &&& bB σ e))) (zi_and _ _) ?_)
                refine lv_if_eq (tgt := 75) hx hb dL_block_67 (by decide) (fun h67 => ?_) (fun h67 => ?_)
                · skip
                  have h67 : (U &&& bB σ e) = 0 := (z_eq0 (by omega)).mp h67
                  refine lv_iconst (v := nI 0) hx hb dL_block_75 (by decide) ?_
                  refine lv_topi (nm_r (e' := (nI (if agn σ e = 1 ∧ U &&& bB σ e ≠ 0 then bB σ e else 0))) (by rw [if_neg (fun z => z.2 h67)]) ?_)
                  exact mg51
                · skip
                  have h67 : ¬ ((U &&& bB σ e) = 0) := fun q => h67 ((z_eq0 (by omega)).mpr q)
                  have h67 : 0 < (U &&& bB σ e) := Nat.pos_of_ne_zero h67
                  refine lv_iload hx hb dL_block_70 (lv_at hl 0 rfl) ?_
                  refine lv_goto (tgt := 76) hx hb dL_block_72 (by decide) ?_
                  refine lv_topi (nm_r (e' := (nI (if agn σ e = 1 ∧ U &&& bB σ e ≠ 0 then bB σ e else 0))) (by rw [if_pos ⟨h60, Nat.ne_of_gt h67⟩]) ?_)
                  exact mg51
        exact loop15 (nE σ + 1) 0 S (rfl) (by omega) (by omega) _ (lv_sub hl [1, 2, 3, 4, 0] rfl)
  exact loop6 7 0 (2 ^ k) (rfl) (by omega) (by omega) _ (lv_sub hl [2, 3, 1, 0] rfl)
