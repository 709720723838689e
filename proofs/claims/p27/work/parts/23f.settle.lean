theorem kX4_settle_g_ok (l : Launch) (G : zG) (ad : Nat → Nat → Nat) (σ : Nat → Nat) (T : Nat → Nat → Nat) (o n : Nat) (f : Nat → Int32) (x : Nat → Nat) (len : Nat) {N : Nat} (e : Nat) (k1 : Nat) (d1 : Nat) (k2 : Nat) (d2 : Nat) (hO : Ok N σ) (ho : o < 5) (hn : n ≤ 4) (he : e < nE σ) (hs : (k1 = fS σ e ∧ d1 = fD σ e ∧ k2 = sS σ e ∧ d2 = sD σ e) ∨ (k1 = sS σ e ∧ d1 = sD σ e ∧ k2 = fS σ e ∧ d2 = fD σ e)) (hbad : ¬ sbd σ k1 d1 k2 d2 < 10) (hd : va_D (fun _ => True) (wX G ad σ T o n f x len)) : Met l yX4_settle wsX4_settle (zRm 4 104) (zPc G [.ref (ad 0 0), .int (nI e), .int (nI k1)] (va_P G.1 vwCl (wX G ad σ T o n f x len))) (zQ (zA (wX G ad σ T o n f x len)) (some (.int (nI (stc σ k1 d1 k2 d2 10)))) (va_P G.1 vwCl (wX G ad (stE σ k1 d1 k2 d2) (upT T ((o + n) % 5) σ) (nO o n) (nN n) f x len))) 0 0 (zA (wX G ad σ T o n f x len)) := by
  rcases hs with ⟨rfl, rfl, rfl, rfl⟩ | ⟨rfl, rfl, rfl, rfl⟩
  · exact kX4_settle_f_ok l G ad σ T o n f x len e hO ho hn he hbad hd
  · exact kX4_settle_s_ok l G ad σ T o n f x len e hO ho hn he hbad hd
theorem kX4_settle_g_no (l : Launch) (G : zG) (ad : Nat → Nat → Nat) (σ : Nat → Nat) (T : Nat → Nat → Nat) (o n : Nat) (f : Nat → Int32) (x : Nat → Nat) (len : Nat) {N : Nat} (e : Nat) (k1 : Nat) (d1 : Nat) (k2 : Nat) (d2 : Nat) (hO : Ok N σ) (ho : o < 5) (hn : n ≤ 4) (he : e < nE σ) (hs : (k1 = fS σ e ∧ d1 = fD σ e ∧ k2 = sS σ e ∧ d2 = sD σ e) ∨ (k1 = sS σ e ∧ d1 = sD σ e ∧ k2 = fS σ e ∧ d2 = fD σ e)) (hbad : sbd σ k1 d1 k2 d2 < 10) (hd : va_D (fun _ => True) (wX G ad σ T o n f x len)) : Met l yX4_settle wsX4_settle (zRm 4 104) (zPc G [.ref (ad 0 0), .int (nI e), .int (nI k1)] (va_P G.1 vwCl (wX G ad σ T o n f x len))) (zQ (zA (wX G ad σ T o n f x len)) (some (.int ((-2)))) (va_P G.1 vwCl (wX G ad σ (upT T ((o + n) % 5) σ) o n f x len))) 0 0 (zA (wX G ad σ T o n f x len)) := by
  rcases hs with ⟨rfl, rfl, rfl, rfl⟩ | ⟨rfl, rfl, rfl, rfl⟩
  · exact kX4_settle_f_no l G ad σ T o n f x len e hO ho hn he hbad hd
  · exact kX4_settle_s_no l G ad σ T o n f x len e hO ho hn he hbad hd
set_option maxHeartbeats 8000000 in
set_option maxRecDepth 100000 in
theorem ac_settle2 {pr : Program} {l : Launch} {en : Env} {st : State} {mi : MethodId} {ar : Array Value} {bl : List Frame} {me : Method} {cd : Code} {Q : State → Prop} {G : zG} {q : Nat → Nat} {ad : Nat → Nat → Nat} {σ : Nat → Nat} {T : Nat → Nat → Nat} {o n : Nat} {f : Nat → Int32} {x : Nat → Nat} {len : Nat} {N : Nat} {A0 : Nat → Prop} {H : Heap} {locs : List Loc} {ls : Array Slot} {k1 d1 k2 d2 e : Nat} (C0 : AC pr st mi ar cd G) (hJ : Jv N σ o n) (hN : N + 1 < 100000) (he : e < nE σ) (hss : (k1 = fS σ e ∧ d1 = fD σ e ∧ k2 = sS σ e ∧ d2 = sD σ e) ∨ (k1 = sS σ e ∧ d1 = sD σ e ∧ k2 = fS σ e ∧ d2 = fD σ e)) (hP : va_P G.1 vwCl ((wL G q σ) ++ wX G ad σ T o n f x len) H) (hD : va_D A0 ((wL G q σ) ++ wX G ad σ T o n f x len)) (hS : va_S A0 st.heap H locs) (hl : lv_has ls 43 [(0, .ref (ad 0 0)), (1, .ref (q 0)), (2, .ref (q 1)), (3, .ref (q 2)), (4, .ref (q 3)), (13, .int (nI e)), (30, .int (nI k1)), (31, .int (nI k2)), (32, .int (nI d2)), (33, .int (nI d1))]) (hret : AR pr l en st mi ar bl me cd Q G q ad x len A0 (N + 1)) : W pr l en (zRm 7 176) st mi ar bl me cd H locs 0 0 Q (F0 mi 1010 ls []) := by
  obtain ⟨hx, hb, hml, hown, hts, hG⟩ := id C0
  obtain ⟨hO, hC, ho, hn, hM⟩ := id hJ
  have hc := hO.c
  have hs := hO.lS
  have hne := hO.lE
  have hM6 := hM.s
  have hM7 := hM.e
  have hM4 := hM.r
  have hM1 := hM.1
  have hM2 := hM.2
  have hNN := hO.N
  have hg2 := hO.2.2.1
  have hg3 := hO.2.2.2.1
  have hff := its_f hO hM he
  have hfd := fD_lt σ e
  have hsd := sD_lt σ e
  have hfs : fD σ e ≠ sD σ e := by unfold fD sD; split <;> omega
  have hk1 : k1 < 6 := by omega
  have hk2 : k2 < 6 := by omega
  have hd1 : d1 < 4 := by omega
  have hd2 : d2 < 4 := by omega
  have hne : ¬ (k1 = k2 ∧ d1 = d2) := by omega
  have hbl2 := bN_lt hO (show k2 < 36 by omega)
  have hal2 := aN_lt hO (show k2 < 36 by omega) hd2
  refine lv_aload_n hx hb dL_acts_1010 rfl (lv_at hl 3 rfl) ?_
  refine lv_iconst (v := nI 4) hx hb dL_acts_1011 (by decide) ?_
  refine lv_iload hx hb dL_acts_1012 (lv_at hl 7 rfl) ?_
  refine lv_imul hx hb dL_acts_1014 ?_
  refine lv_topi (nm_r (e' := nI (4 * k2)) (pk_mul _ _) ?_)
  refine lv_iload hx hb dL_acts_1015 (lv_at hl 8 rfl) ?_
  refine lv_iadd hx hb dL_acts_1017 ?_
  refine lv_topi (nm_r (e' := nI ((4 * k2) + d2)) (nI_add _ _) ?_)
  refine va_lald hx hb hG.1 hP 2 3 rfl rfl (vp_in_nI (n := (4 * k2) + d2) (N := 24) (by omega) (by omega)) dL_acts_1018 ?_
  refine lv_topl (nm_r (e' := (lN (aN σ k2 d2))) (by rw [nI_clamp (by omega)]; exact aF_at σ (by omega)) ?_)
  refine lv_topl (nm_r (e' := (lN (nxt σ k1 d1 k2 d2 0))) (by rw [nxt_0]) ?_)
  refine lv_lstore (lv' := [(34, .long (lN (nxt σ k1 d1 k2 d2 0))), (0, .ref (ad 0 0)), (1, .ref (q 0)), (2, .ref (q 1)), (3, .ref (q 2)), (4, .ref (q 3)), (13, .int (nI e)), (30, .int (nI k1)), (31, .int (nI k2)), (32, .int (nI d2)), (33, .int (nI d1))]) hx hb dL_acts_1019 hl (by decide) rfl (fun ls hl => ?_)
  refine lv_iconst (v := nI 0) hx hb dL_acts_1021 (by decide) ?_
  refine lv_istore (lv' := [(36, .int (nI 0)), (34, .long (lN (nxt σ k1 d1 k2 d2 0))), (0, .ref (ad 0 0)), (1, .ref (q 0)), (2, .ref (q 1)), (3, .ref (q 2)), (4, .ref (q 3)), (13, .int (nI e)), (30, .int (nI k1)), (31, .int (nI k2)), (32, .int (nI d2)), (33, .int (nI d1))]) hx hb dL_acts_1022 hl (by decide) rfl (fun ls hl => ?_)
  refine lv_iconst (v := nI 0) hx hb dL_acts_1024 (by decide) ?_
  refine lv_istore (lv' := [(37, .int (nI 0)), (36, .int (nI 0)), (34, .long (lN (nxt σ k1 d1 k2 d2 0))), (0, .ref (ad 0 0)), (1, .ref (q 0)), (2, .ref (q 1)), (3, .ref (q 2)), (4, .ref (q 3)), (13, .int (nI e)), (30, .int (nI k1)), (31, .int (nI k2)), (32, .int (nI d2)), (33, .int (nI d1))]) hx hb dL_acts_1025 hl (by decide) rfl (fun ls hl => ?_)
  refine lv_iconst (v := nI 0) hx hb dL_acts_1027 (by decide) ?_
  refine lv_istore (lv' := [(38, .int (nI 0)), (37, .int (nI 0)), (36, .int (nI 0)), (34, .long (lN (nxt σ k1 d1 k2 d2 0))), (0, .ref (ad 0 0)), (1, .ref (q 0)), (2, .ref (q 1)), (3, .ref (q 2)), (4, .ref (q 3)), (13, .int (nI e)), (30, .int (nI k1)), (31, .int (nI k2)), (32, .int (nI d2)), (33, .int (nI d1))]) hx hb dL_acts_1028 hl (by decide) rfl (fun ls hl => ?_)
  have loop1030 : ∀ (m : Nat) (i : Nat) (mn : Nat) (lk : Nat) (hmn : mn = mny σ k1 d1 k2 d2 i) (hlk : lk ≤ 1 ∧ (lk = 1 ↔ lck σ k1 d1 k2 i)) (hi : i ≤ 10) (hm : 10 < i + m) (ls : Array Slot) (hl : lv_has ls 43 [(0, .ref (ad 0 0)), (1, .ref (q 0)), (2, .ref (q 1)), (3, .ref (q 2)), (4, .ref (q 3)), (13, .int (nI e)), (30, .int (nI k1)), (31, .int (nI k2)), (32, .int (nI d2)), (33, .int (nI d1)), (34, .long (lN (nxt σ k1 d1 k2 d2 i))), (36, .int (nI mn)), (37, .int (nI lk)), (38, .int (nI i))]) (H : Heap) (locs : List Loc) (hP : va_P G.1 vwCl ((wL G q σ) ++ wX G ad σ T o n f x len) H) (hD : va_D A0 ((wL G q σ) ++ wX G ad σ T o n f x len)) (hS : va_S A0 st.heap H locs), W pr l en (zRm 7 176) st mi ar bl me cd H locs 0 0 Q (F0 mi 1030 ls []) := by
    intro m
    induction m with
    | zero => intro i mn lk hmn hlk hi hm ls hl H locs hP hD hS; exfalso; omega
    | succ m ih1030 =>
      intro i mn lk hmn hlk hi hm ls hl H locs hP hD hS
      refine lv_iload hx hb dL_acts_1030 (lv_at hl 13 rfl) ?_
      refine lv_bipush (v := nI 10) hx hb dL_acts_1032 (by decide) ?_
      refine lv_icmp_ge (tgt := 1222) hx hb dL_acts_1034 (by decide) (fun h1034 => ?_) (fun h1034 => ?_)
      · skip
        have h1034 : 10 ≤ i := (nI_leI (by omega) (by omega)).mp h1034
        have hi10 : i = 10 := by omega
        have hlk10 : lk = 1 ↔ lck σ k1 d1 k2 10 := by rw [← hi10]; exact hlk.2
        have hnx : nxt σ k1 d1 k2 d2 i = nxt σ k1 d1 k2 d2 10 := by rw [hi10]
        have hmnl : mn ≤ i := by rw [hmn]; exact mny_le σ k1 d1 k2 d2 i
        have hscl := stc_le σ k1 d1 k2 d2 10
        refine lv_iload hx hb dL_acts_1222 (lv_at hl 12 rfl) ?_
        refine lv_if_eq (tgt := 1246) hx hb dL_acts_1224 (by decide) (fun h1224 => ?_) (fun h1224 => ?_)
        · skip
          have h1224 : lk = 0 := (z_eq0 (by omega)).mp h1224
          have hbad : ¬ sbd σ k1 d1 k2 d2 < 10 := fun z => by have := hlk10.mpr ((lck_iff hO (by omega) hd1 (by omega) hd2 hne).mpr z); omega
          have hst : mn = stc σ k1 d1 k2 d2 10 := by rw [hmn, hi10]; exact mny_eq hO (by omega) hd1 (by omega) hd2 hne (fun z => by have := hlk10.mpr z; omega)
          refine lv_aload_n hx hb dL_acts_1246 rfl (lv_at hl 3 rfl) ?_
          refine lv_iconst (v := nI 4) hx hb dL_acts_1247 (by decide) ?_
          refine lv_iload hx hb dL_acts_1248 (lv_at hl 7 rfl) ?_
          refine lv_imul hx hb dL_acts_1250 ?_
          refine lv_topi (nm_r (e' := nI (4 * k2)) (pk_mul _ _) ?_)
          refine lv_iload hx hb dL_acts_1251 (lv_at hl 8 rfl) ?_
          refine lv_iadd hx hb dL_acts_1253 ?_
          refine lv_topi (nm_r (e' := nI ((4 * k2) + d2)) (nI_add _ _) ?_)
          refine lv_lload hx hb dL_acts_1254 (lv_at hl 10 rfl) ?_
          refine lv_topl (nm_r (e' := (lN (nxt σ k1 d1 k2 d2 10))) (by rw [hnx]) ?_)
          refine va_last hx hb hG.1 hP hD hS 2 3 rfl rfl (vp_in_nI (n := (4 * k2) + d2) (N := 24) (by omega) (by omega)) dL_acts_1256 (fun H locs hP hD hS => ?_)
          rw [nI_clamp (show (4 * k2) + d2 < 2 ^ 31 by omega)] at hP hD
          have hP : va_P G.1 vwCl ((wL0 G q (gF σ) (rF σ) (vp_updL (aF σ) ((4 * k2) + d2) (lN (nxt σ k1 d1 k2 d2 10))) (bF σ)) ++ wX G ad σ T o n f x len) H := hP
          have hD : va_D A0 ((wL0 G q (gF σ) (rF σ) (vp_updL (aF σ) ((4 * k2) + d2) (lN (nxt σ k1 d1 k2 d2 10))) (bF σ)) ++ wX G ad σ T o n f x len) := hD
          refine lv_aload_n hx hb dL_acts_1257 rfl (lv_at hl 2 rfl) ?_
          refine lv_iload hx hb dL_acts_1258 (lv_at hl 7 rfl) ?_
          refine lv_dup2_11 hx hb dL_acts_1260 rfl rfl ?_
          refine va_iald hx hb hG.1 hP 1 0 rfl rfl (vp_in_nI (n := k2) (N := 18) (by omega) (by omega)) dL_acts_1261 ?_
          refine lv_topi (nm_r (e' := nI (rvn σ k2)) (by rw [nI_clamp (by omega)]; unfold rF; rw [if_pos (by omega)]) ?_)
          have mg1262 : W pr l en (zRm 7 176) st mi ar bl me cd H locs 0 0 Q (F0 mi 1272 ls [.int (nI (if 0 < stc σ k1 d1 k2 d2 10 then 1 else 0)), .int (nI (rvn σ k2)), .int (nI k2), .ref (q 1)]) := by
            refine lv_iadd hx hb dL_acts_1272 ?_
            refine lv_topi (nm_r (e' := nI ((rvn σ k2) + (if 0 < stc σ k1 d1 k2 d2 10 then 1 else 0))) (nI_add _ _) ?_)
            refine va_iast hx hb hG.1 hP hD hS 1 0 rfl rfl (vp_in_nI (n := k2) (N := 18) (by omega) (by omega)) dL_acts_1273 (fun H locs hP hD hS => ?_)
            rw [nI_clamp (show k2 < 2 ^ 31 by omega)] at hP hD
            have hP : va_P G.1 vwCl ((wL0 G q (gF σ) (upd (rF σ) k2 (nI ((rvn σ k2) + (if 0 < stc σ k1 d1 k2 d2 10 then 1 else 0)))) (vp_updL (aF σ) ((4 * k2) + d2) (lN (nxt σ k1 d1 k2 d2 10))) (bF σ)) ++ wX G ad σ T o n f x len) H := hP
            have hD : va_D A0 ((wL0 G q (gF σ) (upd (rF σ) k2 (nI ((rvn σ k2) + (if 0 < stc σ k1 d1 k2 d2 10 then 1 else 0)))) (vp_updL (aF σ) ((4 * k2) + d2) (lN (nxt σ k1 d1 k2 d2 10))) (bF σ)) ++ wX G ad σ T o n f x len) := hD
            have hP : va_P G.1 vwCl ((wL G q (stE σ k1 d1 k2 d2)) ++ wX G ad σ T o n f x len) H := wL_x (gF_lo (fun j hj => stE_lo hj)) (stE_r hd2 hk2) (stE_a hO (by omega) hd1 (by omega) hd2 hne) (stE_b hd2) hP
            have hD : va_D A0 ((wL G q (stE σ k1 d1 k2 d2)) ++ wX G ad σ T o n f x len) := wL_d hD
            refine lv_aload_n hx hb dL_acts_1274 rfl (lv_at hl 0 rfl) ?_
            refine lv_iload hx hb dL_acts_1275 (lv_at hl 5 rfl) ?_
            refine lv_iload hx hb dL_acts_1277 (lv_at hl 6 rfl) ?_
            refine zwrR (G := G) (w1 := (wL G q (stE σ k1 d1 k2 d2))) (wc := wX G ad σ T o n f x len) (wc' := wX G ad (stE σ k1 d1 k2 d2) (upT T ((o + n) % 5) σ) (nO o n) (nN n) f x len) (va_runV (As := [.int (nI e), .int (nI k1)]) (rest := []) ⟨hx, hb, hml, hown, hts⟩ (kX4_settle_g_ok l G ad σ T o n f x len e k1 d1 k2 d2 (hO) (by omega) (by omega) (by omega) (hss) (hbad) (zD_any (zD_r hD))) (cwV 2 hts gL_acts_X4_settle rfl rfl rfl (by decide +kernel) ⟨Nat.le_of_ble_eq_true rfl, Nat.le_of_ble_eq_true rfl⟩) (zPreV hG (va_recv (q0 := 0) (ci := 4) hG.1 (zP_r hP) rfl rfl) (zP_r hP)) rfl rfl hl.1 rfl (lv_room (Nat.le_of_ble_eq_true rfl)) dL_acts_1279 ⟨Nat.le_of_ble_eq_true rfl, Nat.le_of_ble_eq_true rfl⟩) hP hD hS (wX_map ..) (fun H locs hP hD hS => ?_)
            refine lv_iload hx hb dL_acts_1282 (lv_at hl 11 rfl) ?_
            refine lv_icmp_ne (tgt := 1291) hx hb dL_acts_1284 (by decide) (fun h1284 => ?_) (fun h1284 => ?_)
            · skip
              exact absurd (congrArg nI (hst.symm)) h1284
            · skip
              refine lv_iconst (v := nI 1) hx hb dL_acts_1287 (by decide) ?_
              refine lv_goto (tgt := 1292) hx hb dL_acts_1288 (by decide) ?_
              exact hret _ _ _ _ _ _ _ _ _ dL_acts_1292 hS (⟨(stE_ok hO hN hC he hss hbad).1, (stE_ok hO hN hC he hss hbad).2, jO ho, jN hn, hM.lo (stE_lo (by omega)) (stE_lo (by omega))⟩) hP
          refine lv_iload hx hb dL_acts_1262 (lv_at hl 11 rfl) ?_
          refine lv_if_le (tgt := 1271) hx hb dL_acts_1264 (by decide) (fun h1264 => ?_) (fun h1264 => ?_)
          · skip
            have h1264 : mn = 0 := (z_le0 (by omega)).mp h1264
            refine lv_iconst (v := nI 0) hx hb dL_acts_1271 (by decide) ?_
            refine lv_topi (nm_r (e' := (nI (if 0 < stc σ k1 d1 k2 d2 10 then 1 else 0))) (by rw [if_neg (by omega)]) ?_)
            exact mg1262
          · skip
            have h1264 : ¬ (mn = 0) := fun q => h1264 ((z_le0 (by omega)).mpr q)
            have h1264 : 0 < mn := Nat.pos_of_ne_zero h1264
            refine lv_iconst (v := nI 1) hx hb dL_acts_1267 (by decide) ?_
            refine lv_goto (tgt := 1272) hx hb dL_acts_1268 (by decide) ?_
            refine lv_topi (nm_r (e' := (nI (if 0 < stc σ k1 d1 k2 d2 10 then 1 else 0))) (by rw [if_pos (by omega)]) ?_)
            exact mg1262
        · skip
          have h1224 : ¬ (lk = 0) := fun q => h1224 ((z_eq0 (by omega)).mpr q)
          have h1224 : 0 < lk := Nat.pos_of_ne_zero h1224
          refine lv_aload_n hx hb dL_acts_1227 rfl (lv_at hl 0 rfl) ?_
          refine lv_iload hx hb dL_acts_1228 (lv_at hl 5 rfl) ?_
          refine lv_iload hx hb dL_acts_1230 (lv_at hl 6 rfl) ?_
          refine zwrR (G := G) (w1 := (wL G q σ)) (wc := wX G ad σ T o n f x len) (wc' := wX G ad σ (upT T ((o + n) % 5) σ) o n f x len) (va_runV (As := [.int (nI e), .int (nI k1)]) (rest := []) ⟨hx, hb, hml, hown, hts⟩ (kX4_settle_g_no l G ad σ T o n f x len e k1 d1 k2 d2 (hO) (by omega) (by omega) (by omega) (hss) ((lck_iff hO (by omega) hd1 (by omega) hd2 hne).mp (hlk10.mp (by omega))) (zD_any (zD_r hD))) (cwV 2 hts gL_acts_X4_settle rfl rfl rfl (by decide +kernel) ⟨Nat.le_of_ble_eq_true rfl, Nat.le_of_ble_eq_true rfl⟩) (zPreV hG (va_recv (q0 := 0) (ci := 4) hG.1 (zP_r hP) rfl rfl) (zP_r hP)) rfl rfl hl.1 rfl (lv_room (Nat.le_of_ble_eq_true rfl)) dL_acts_1232 ⟨Nat.le_of_ble_eq_true rfl, Nat.le_of_ble_eq_true rfl⟩) hP hD hS (wX_map ..) (fun H locs hP hD hS => ?_)
          refine lv_bipush (v := (-2)) hx hb dL_acts_1235 (by decide) ?_
          refine lv_icmp_ne (tgt := 1244) hx hb dL_acts_1237 (by decide) (fun h1237 => ?_) (fun h1237 => ?_)
          · skip
            exact absurd rfl h1237
          · skip
            refine lv_iconst (v := nI 1) hx hb dL_acts_1240 (by decide) ?_
            refine lv_goto (tgt := 1245) hx hb dL_acts_1241 (by decide) ?_
            exact hret _ _ _ _ _ _ _ _ _ dL_acts_1245 hS (⟨hO.up hN, hC, ho, hn, hM⟩) hP
      · skip
        have h1034 : ¬ (10 ≤ i) := fun q => h1034 ((nI_leI (by omega) (by omega)).mpr q)
        have hnl := nxt_lt hO (k1 := k1) (d1 := d1) (k2 := k2) (d2 := d2) (show k2 < 36 by omega) hd2 i
        have hsg := hO.sg (show k2 < 36 by omega) hd2 (show i < 10 by omega)
        have hbst := bst_le σ hO (k1 := k1) (d1 := d1) (k2 := k2) (d2 := d2) (q := i) (by omega) hd2 (by omega)
        have hmnl : mn ≤ i := by rw [hmn]; exact mny_le σ k1 d1 k2 d2 i
        refine lv_aload_n hx hb dL_acts_1037 rfl (lv_at hl 3 rfl) ?_
        refine lv_aload hx hb dL_acts_1038 (lv_at hl 4 rfl) ?_
        refine lv_iload hx hb dL_acts_1040 (lv_at hl 6 rfl) ?_
        refine lv_iload hx hb dL_acts_1042 (lv_at hl 9 rfl) ?_
        refine lv_iload hx hb dL_acts_1044 (lv_at hl 13 rfl) ?_
        refine zrdS (As := [.ref (q 2), .ref (q 3), .int (nI k1), .int (nI d1), .int (nI i)]) ⟨hx, hb, hml, hown, hts⟩ (kL_means l G q σ k1 d1 i (hO) (by omega) (by omega) (by omega)) (va_cwS 5 hts gL_acts_L_means rfl rfl rfl (by decide +kernel) ⟨Nat.le_of_ble_eq_true rfl, Nat.le_of_ble_eq_true rfl⟩) hG (zP_l hP) rfl rfl hl.1 dL_acts_1046 (Nat.le_of_ble_eq_true rfl) ⟨Nat.le_of_ble_eq_true rfl, Nat.le_of_ble_eq_true rfl⟩ ?_
        have hf1046_0 := hO.mn (show k1 < 36 by omega) (show d1 < 4 by omega) (show i < 10 by omega)
        refine lv_istore (lv' := [(39, .int (nI (mns σ k1 d1 i))), (0, .ref (ad 0 0)), (1, .ref (q 0)), (2, .ref (q 1)), (3, .ref (q 2)), (4, .ref (q 3)), (13, .int (nI e)), (30, .int (nI k1)), (31, .int (nI k2)), (32, .int (nI d2)), (33, .int (nI d1)), (34, .long (lN (nxt σ k1 d1 k2 d2 i))), (36, .int (nI mn)), (37, .int (nI lk)), (38, .int (nI i))]) hx hb dL_acts_1049 hl (by decide) rfl (fun ls hl => ?_)
        refine lv_lload hx hb dL_acts_1051 (lv_at hl 11 rfl) ?_
        refine lv_bipush (v := nI 11) hx hb dL_acts_1053 (by decide) ?_
        refine lv_iload hx hb dL_acts_1055 (lv_at hl 14 rfl) ?_
        refine zrdS (As := [.long (lN (nxt σ k1 d1 k2 d2 i)), .int (nI 11), .int (nI i)]) ⟨hx, hb, hml, hown, hts⟩ (kL_digit l G  (nxt σ k1 d1 k2 d2 i) 11 i (by omega) (by omega) (by omega) (by omega)) (va_cwS 3 hts gL_acts_L_digit rfl rfl rfl (by decide +kernel) ⟨Nat.le_of_ble_eq_true rfl, Nat.le_of_ble_eq_true rfl⟩) hG (trivial) rfl rfl hl.1 dL_acts_1057 (Nat.le_of_ble_eq_true rfl) ⟨Nat.le_of_ble_eq_true rfl, Nat.le_of_ble_eq_true rfl⟩ ?_
        refine lv_topi (nm_r (e' := (nI (sgn σ k2 d2 i))) (congrArg nI (nxt_dg hO (by omega) hd2 (by omega))) ?_)
        refine lv_istore (lv' := [(40, .int (nI (sgn σ k2 d2 i))), (39, .int (nI (mns σ k1 d1 i))), (0, .ref (ad 0 0)), (1, .ref (q 0)), (2, .ref (q 1)), (3, .ref (q 2)), (4, .ref (q 3)), (13, .int (nI e)), (30, .int (nI k1)), (31, .int (nI k2)), (32, .int (nI d2)), (33, .int (nI d1)), (34, .long (lN (nxt σ k1 d1 k2 d2 i))), (36, .int (nI mn)), (37, .int (nI lk)), (38, .int (nI i))]) hx hb dL_acts_1060 hl (by decide) rfl (fun ls hl => ?_)
        refine lv_bipush (v := nI 10) hx hb dL_acts_1062 (by decide) ?_
        refine lv_topi (nm_r (e' := (nI (fw σ k2 (mns σ k1 d1 i) 0))) (rfl) ?_)
        refine lv_istore (lv' := [(41, .int (nI (fw σ k2 (mns σ k1 d1 i) 0))), (40, .int (nI (sgn σ k2 d2 i))), (39, .int (nI (mns σ k1 d1 i))), (0, .ref (ad 0 0)), (1, .ref (q 0)), (2, .ref (q 1)), (3, .ref (q 2)), (4, .ref (q 3)), (13, .int (nI e)), (30, .int (nI k1)), (31, .int (nI k2)), (32, .int (nI d2)), (33, .int (nI d1)), (34, .long (lN (nxt σ k1 d1 k2 d2 i))), (36, .int (nI mn)), (37, .int (nI lk)), (38, .int (nI i))]) hx hb dL_acts_1064 hl (by decide) rfl (fun ls hl => ?_)
        refine lv_bipush (v := nI 9) hx hb dL_acts_1066 (by decide) ?_
        refine lv_topi (nm_r (e' := (nI (10 - 0) - nI 1)) (by decide +kernel) ?_)
        refine lv_istore (lv' := [(42, .int (nI (10 - 0) - nI 1)), (41, .int (nI (fw σ k2 (mns σ k1 d1 i) 0))), (40, .int (nI (sgn σ k2 d2 i))), (39, .int (nI (mns σ k1 d1 i))), (0, .ref (ad 0 0)), (1, .ref (q 0)), (2, .ref (q 1)), (3, .ref (q 2)), (4, .ref (q 3)), (13, .int (nI e)), (30, .int (nI k1)), (31, .int (nI k2)), (32, .int (nI d2)), (33, .int (nI d1)), (34, .long (lN (nxt σ k1 d1 k2 d2 i))), (36, .int (nI mn)), (37, .int (nI lk)), (38, .int (nI i))]) hx hb dL_acts_1068 hl (by decide) rfl (fun ls hl => ?_)
        have loop1070 : ∀ (u : Nat) (j : Nat) (hj : j ≤ 10) (hw10 : mns σ k1 d1 i = 10 → j = 0) (hu : 10 < j + u) (ls : Array Slot) (hl : lv_has ls 43 [(0, .ref (ad 0 0)), (1, .ref (q 0)), (2, .ref (q 1)), (3, .ref (q 2)), (4, .ref (q 3)), (13, .int (nI e)), (30, .int (nI k1)), (31, .int (nI k2)), (32, .int (nI d2)), (33, .int (nI d1)), (34, .long (lN (nxt σ k1 d1 k2 d2 i))), (36, .int (nI mn)), (37, .int (nI lk)), (38, .int (nI i)), (39, .int (nI (mns σ k1 d1 i))), (40, .int (nI (sgn σ k2 d2 i))), (41, .int (nI (fw σ k2 (mns σ k1 d1 i) j))), (42, .int (nI (10 - j) - nI 1))]) (H : Heap) (locs : List Loc) (hP : va_P G.1 vwCl ((wL G q σ) ++ wX G ad σ T o n f x len) H) (hD : va_D A0 ((wL G q σ) ++ wX G ad σ T o n f x len)) (hS : va_S A0 st.heap H locs), W pr l en (zRm 7 176) st mi ar bl me cd H locs 0 0 Q (F0 mi 1070 ls []) := by
          intro u
          induction u with
          | zero => intro j hj hw10 hu ls hl H locs hP hD hS; exfalso; omega
          | succ u ih1070 =>
            intro j hj hw10 hu ls hl H locs hP hD hS
            have hfl0 := fw_le σ k2 (mns σ k1 d1 i) j hj
            refine lv_iload hx hb dL_acts_1070 (lv_at hl 17 rfl) ?_
            refine lv_if_lt (tgt := 1114) hx hb dL_acts_1072 (by decide) (fun h1072 => ?_) (fun h1072 => ?_)
            · skip
              have h1072 : 10 - j = 0 := (zdm_lt (by omega)).mp h1072
              have hb1 : mns σ k1 d1 i = 10 → fw σ k2 (mns σ k1 d1 i) j = 10 := fun z => by rw [hw10 z]; rfl
              have hb2 : mns σ k1 d1 i < 10 → fw σ k2 (mns σ k1 d1 i) j = lws σ k2 (mns σ k1 d1 i) := fun z => by rw [show j = 10 by omega]; exact fw_lws _ _ _
              have mg1114 : W pr l en (zRm 7 176) st mi ar bl me cd H locs 0 0 Q (F0 mi 1138 ls [.int (nI (if lk = 1 ∨ (mns σ k1 d1 i < 10 ∧ fw σ k2 (mns σ k1 d1 i) j = 10) then 1 else 0))]) := by
                refine lv_istore (lv' := [(37, .int (nI (if lk = 1 ∨ (mns σ k1 d1 i < 10 ∧ fw σ k2 (mns σ k1 d1 i) j = 10) then 1 else 0))), (0, .ref (ad 0 0)), (1, .ref (q 0)), (2, .ref (q 1)), (3, .ref (q 2)), (4, .ref (q 3)), (13, .int (nI e)), (30, .int (nI k1)), (31, .int (nI k2)), (32, .int (nI d2)), (33, .int (nI d1)), (34, .long (lN (nxt σ k1 d1 k2 d2 i))), (36, .int (nI mn)), (38, .int (nI i)), (39, .int (nI (mns σ k1 d1 i))), (40, .int (nI (sgn σ k2 d2 i))), (41, .int (nI (fw σ k2 (mns σ k1 d1 i) j))), (42, .int (nI (10 - j) - nI 1))]) hx hb dL_acts_1138 hl (by decide) rfl (fun ls hl => ?_)
                have mg1140 : W pr l en (zRm 7 176) st mi ar bl me cd H locs 0 0 Q (F0 mi 1178 ls [.int (nI (bst σ k1 d1 k2 d2 i))]) := by
                  refine lv_istore (lv' := [(41, .int (nI (bst σ k1 d1 k2 d2 i))), (37, .int (nI (if lk = 1 ∨ (mns σ k1 d1 i < 10 ∧ fw σ k2 (mns σ k1 d1 i) j = 10) then 1 else 0))), (0, .ref (ad 0 0)), (1, .ref (q 0)), (2, .ref (q 1)), (3, .ref (q 2)), (4, .ref (q 3)), (13, .int (nI e)), (30, .int (nI k1)), (31, .int (nI k2)), (32, .int (nI d2)), (33, .int (nI d1)), (34, .long (lN (nxt σ k1 d1 k2 d2 i))), (36, .int (nI mn)), (38, .int (nI i)), (39, .int (nI (mns σ k1 d1 i))), (40, .int (nI (sgn σ k2 d2 i))), (42, .int (nI (10 - j) - nI 1))]) hx hb dL_acts_1178 hl (by decide) rfl (fun ls hl => ?_)
                  refine lv_iload hx hb dL_acts_1180 (lv_at hl 13 rfl) ?_
                  have mg1182 : W pr l en (zRm 7 176) st mi ar bl me cd H locs 0 0 Q (F0 mi 1194 ls [.int (nI (if bst σ k1 d1 k2 d2 i = sgn σ k2 d2 i then 0 else 1)), .int (nI mn)]) := by
                    refine lv_iadd hx hb dL_acts_1194 ?_
                    refine lv_topi (nm_r (e' := nI (mn + (if bst σ k1 d1 k2 d2 i = sgn σ k2 d2 i then 0 else 1))) (nI_add _ _) ?_)
                    refine lv_istore (lv' := [(36, .int (nI (mn + (if bst σ k1 d1 k2 d2 i = sgn σ k2 d2 i then 0 else 1)))), (41, .int (nI (bst σ k1 d1 k2 d2 i))), (37, .int (nI (if lk = 1 ∨ (mns σ k1 d1 i < 10 ∧ fw σ k2 (mns σ k1 d1 i) j = 10) then 1 else 0))), (0, .ref (ad 0 0)), (1, .ref (q 0)), (2, .ref (q 1)), (3, .ref (q 2)), (4, .ref (q 3)), (13, .int (nI e)), (30, .int (nI k1)), (31, .int (nI k2)), (32, .int (nI d2)), (33, .int (nI d1)), (34, .long (lN (nxt σ k1 d1 k2 d2 i))), (38, .int (nI i)), (39, .int (nI (mns σ k1 d1 i))), (40, .int (nI (sgn σ k2 d2 i))), (42, .int (nI (10 - j) - nI 1))]) hx hb dL_acts_1195 hl (by decide) rfl (fun ls hl => ?_)
                    refine lv_lload hx hb dL_acts_1197 (lv_at hl 13 rfl) ?_
                    refine lv_iload hx hb dL_acts_1199 (lv_at hl 1 rfl) ?_
                    refine lv_iload hx hb dL_acts_1201 (lv_at hl 16 rfl) ?_
                    refine lv_isub hx hb dL_acts_1203 ?_
                    refine lv_i2l hx hb dL_acts_1204 rfl ?_
                    refine lv_bipush (v := nI 11) hx hb dL_acts_1205 (by decide) ?_
                    refine lv_iload hx hb dL_acts_1207 (lv_at hl 14 rfl) ?_
                    refine zrdS (As := [.int (nI 11), .int (nI i)]) ⟨hx, hb, hml, hown, hts⟩ (kL_power l G  11 i (by omega) (by omega) (by omega)) (va_cwS 2 hts gL_acts_L_power rfl rfl rfl (by decide +kernel) ⟨Nat.le_of_ble_eq_true rfl, Nat.le_of_ble_eq_true rfl⟩) hG (trivial) rfl rfl hl.1 dL_acts_1209 (Nat.le_of_ble_eq_true rfl) ⟨Nat.le_of_ble_eq_true rfl, Nat.le_of_ble_eq_true rfl⟩ ?_
                    refine lv_lmul hx hb dL_acts_1212 ?_
                    refine lv_ladd hx hb dL_acts_1213 ?_
                    refine lv_topl (nm_r (e' := (lN (nxt σ k1 d1 k2 d2 (i + 1)))) (zl_up (by omega) (by omega) (nxt_up σ k1 d1 k2 d2 (by omega))) ?_)
                    refine lv_lstore (lv' := [(34, .long (lN (nxt σ k1 d1 k2 d2 (i + 1)))), (36, .int (nI (mn + (if bst σ k1 d1 k2 d2 i = sgn σ k2 d2 i then 0 else 1)))), (41, .int (nI (bst σ k1 d1 k2 d2 i))), (37, .int (nI (if lk = 1 ∨ (mns σ k1 d1 i < 10 ∧ fw σ k2 (mns σ k1 d1 i) j = 10) then 1 else 0))), (0, .ref (ad 0 0)), (1, .ref (q 0)), (2, .ref (q 1)), (3, .ref (q 2)), (4, .ref (q 3)), (13, .int (nI e)), (30, .int (nI k1)), (31, .int (nI k2)), (32, .int (nI d2)), (33, .int (nI d1)), (38, .int (nI i)), (39, .int (nI (mns σ k1 d1 i))), (40, .int (nI (sgn σ k2 d2 i))), (42, .int (nI (10 - j) - nI 1))]) hx hb dL_acts_1214 hl (by decide) rfl (fun ls hl => ?_)
                    refine lv_iinc (v := nI (i + 1)) (lv' := [(38, .int (nI (i + 1))), (34, .long (lN (nxt σ k1 d1 k2 d2 (i + 1)))), (36, .int (nI (mn + (if bst σ k1 d1 k2 d2 i = sgn σ k2 d2 i then 0 else 1)))), (41, .int (nI (bst σ k1 d1 k2 d2 i))), (37, .int (nI (if lk = 1 ∨ (mns σ k1 d1 i < 10 ∧ fw σ k2 (mns σ k1 d1 i) j = 10) then 1 else 0))), (0, .ref (ad 0 0)), (1, .ref (q 0)), (2, .ref (q 1)), (3, .ref (q 2)), (4, .ref (q 3)), (13, .int (nI e)), (30, .int (nI k1)), (31, .int (nI k2)), (32, .int (nI d2)), (33, .int (nI d1)), (39, .int (nI (mns σ k1 d1 i))), (40, .int (nI (sgn σ k2 d2 i))), (42, .int (nI (10 - j) - nI 1))]) hx hb dL_acts_1216 hl (k := 14) rfl (zinc1 _) (by decide) rfl (fun ls hl => ?_)
                    refine lv_goto (tgt := 1030) hx hb dL_acts_1219 (by decide) ?_
                    have hlk2 : ((if lk = 1 ∨ (mns σ k1 d1 i < 10 ∧ fw σ k2 (mns σ k1 d1 i) j = 10) then 1 else 0) = 1 ↔ lck σ k1 d1 k2 (i + 1)) := by
                      rw [lck_s, ← hlk.2]
                      constructor
                      · intro z
                        by_cases y : lk = 1 ∨ (mns σ k1 d1 i < 10 ∧ fw σ k2 (mns σ k1 d1 i) j = 10)
                        · exact y.imp id (fun w => ⟨w.1, by rw [← hb2 w.1]; exact w.2⟩)
                        · rw [if_neg y] at z
                          omega
                      · intro z
                        rw [if_pos (z.imp id (fun w => ⟨w.1, by rw [hb2 w.1]; exact w.2⟩))]
                    exact ih1030 (i + 1) (mn + (if bst σ k1 d1 k2 d2 i = sgn σ k2 d2 i then 0 else 1)) (if lk = 1 ∨ (mns σ k1 d1 i < 10 ∧ fw σ k2 (mns σ k1 d1 i) j = 10) then 1 else 0) (by rw [hmn]; rfl) (⟨by split <;> omega, hlk2⟩) (by omega) (by omega) _ (lv_sub hl [5, 6, 7, 8, 9, 10, 11, 12, 13, 14, 1, 2, 4, 0] rfl) _ _ hP hD hS
                  refine lv_iload hx hb dL_acts_1182 (lv_at hl 0 rfl) ?_
                  refine lv_iload hx hb dL_acts_1184 (lv_at hl 16 rfl) ?_
                  refine lv_icmp_ne (tgt := 1193) hx hb dL_acts_1186 (by decide) (fun h1186 => ?_) (fun h1186 => ?_)
                  · skip
                    have h1186 : ¬ ((bst σ k1 d1 k2 d2 i) = (sgn σ k2 d2 i)) := fun q => h1186 ((nI_eq (by omega) (by omega)).mpr q)
                    refine lv_iconst (v := nI 1) hx hb dL_acts_1193 (by decide) ?_
                    refine lv_topi (nm_r (e' := (nI (if bst σ k1 d1 k2 d2 i = sgn σ k2 d2 i then 0 else 1))) (by rw [if_neg h1186]) ?_)
                    exact mg1182
                  · skip
                    have h1186 : (bst σ k1 d1 k2 d2 i) = (sgn σ k2 d2 i) := (nI_eq (by omega) (by omega)).mp h1186
                    refine lv_iconst (v := nI 0) hx hb dL_acts_1189 (by decide) ?_
                    refine lv_goto (tgt := 1194) hx hb dL_acts_1190 (by decide) ?_
                    refine lv_topi (nm_r (e' := (nI (if bst σ k1 d1 k2 d2 i = sgn σ k2 d2 i then 0 else 1))) (by rw [if_pos h1186]) ?_)
                    exact mg1182
                refine lv_iload hx hb dL_acts_1140 (lv_at hl 14 rfl) ?_
                refine lv_bipush (v := nI 10) hx hb dL_acts_1142 (by decide) ?_
                refine lv_icmp_ge (tgt := 1176) hx hb dL_acts_1144 (by decide) (fun h1144 => ?_) (fun h1144 => ?_)
                · skip
                  have h1144 : 10 ≤ (mns σ k1 d1 i) := (nI_leI (by omega) (by omega)).mp h1144
                  refine lv_iload hx hb dL_acts_1176 (lv_at hl 16 rfl) ?_
                  refine lv_topi (nm_r (e' := (nI (bst σ k1 d1 k2 d2 i))) (by unfold bst; rw [if_pos (show mns σ k1 d1 i = 10 by omega), hb1 (by omega)]) ?_)
                  exact mg1140
                · skip
                  have h1144 : ¬ (10 ≤ (mns σ k1 d1 i)) := fun q => h1144 ((nI_leI (by omega) (by omega)).mpr q)
                  refine lv_iload hx hb dL_acts_1147 (lv_at hl 15 rfl) ?_
                  refine lv_bipush (v := nI 10) hx hb dL_acts_1149 (by decide) ?_
                  refine lv_icmp_ge (tgt := 1176) hx hb dL_acts_1151 (by decide) (fun h1151 => ?_) (fun h1151 => ?_)
                  · skip
                    have h1151 : 10 ≤ (sgn σ k2 d2 i) := (nI_leI (by omega) (by omega)).mp h1151
                    refine lv_iload hx hb dL_acts_1176 (lv_at hl 16 rfl) ?_
                    refine lv_topi (nm_r (e' := (nI (bst σ k1 d1 k2 d2 i))) (by unfold bst; rw [if_neg (show ¬ mns σ k1 d1 i = 10 by omega), if_neg (fun z => by omega), hb2 (by omega)]) ?_)
                    exact mg1140
                  · skip
                    have h1151 : ¬ (10 ≤ (sgn σ k2 d2 i)) := fun q => h1151 ((nI_leI (by omega) (by omega)).mpr q)
                    have hmgs := hO.mg (show k2 < 36 by omega) (show sgn σ k2 d2 i < 10 by omega)
                    refine lv_aload hx hb dL_acts_1154 (lv_at hl 5 rfl) ?_
                    refine lv_iload hx hb dL_acts_1156 (lv_at hl 8 rfl) ?_
                    refine va_lald hx hb hG.1 hP 3 3 rfl rfl (vp_in_nI (n := k2) (N := 6) (by omega) (by omega)) dL_acts_1158 ?_
                    refine lv_topl (nm_r (e' := (lN (bN σ k2))) (by rw [nI_clamp (by omega)]; rfl) ?_)
                    refine lv_bipush (v := nI 10) hx hb dL_acts_1159 (by decide) ?_
                    refine lv_iload hx hb dL_acts_1161 (lv_at hl 15 rfl) ?_
                    refine zrdS (As := [.long (lN (bN σ k2)), .int (nI 10), .int (nI (sgn σ k2 d2 i))]) ⟨hx, hb, hml, hown, hts⟩ (kL_digit l G  (bN σ k2) 10 (sgn σ k2 d2 i) (by omega) (by omega) (by omega) (by omega)) (va_cwS 3 hts gL_acts_L_digit rfl rfl rfl (by decide +kernel) ⟨Nat.le_of_ble_eq_true rfl, Nat.le_of_ble_eq_true rfl⟩) hG (trivial) rfl rfl hl.1 dL_acts_1163 (Nat.le_of_ble_eq_true rfl) ⟨Nat.le_of_ble_eq_true rfl, Nat.le_of_ble_eq_true rfl⟩ ?_
                    refine lv_topi (nm_r (e' := (nI (mng σ k2 (sgn σ k2 d2 i)))) (congrArg nI (bN_dg hO (by omega) (by omega))) ?_)
                    refine lv_iload hx hb dL_acts_1166 (lv_at hl 14 rfl) ?_
                    refine lv_icmp_ne (tgt := 1176) hx hb dL_acts_1168 (by decide) (fun h1168 => ?_) (fun h1168 => ?_)
                    · skip
                      have h1168 : ¬ ((mng σ k2 (sgn σ k2 d2 i)) = (mns σ k1 d1 i)) := fun q => h1168 ((nI_eq (by omega) (by omega)).mpr q)
                      refine lv_iload hx hb dL_acts_1176 (lv_at hl 16 rfl) ?_
                      refine lv_topi (nm_r (e' := (nI (bst σ k1 d1 k2 d2 i))) (by unfold bst; rw [if_neg (show ¬ mns σ k1 d1 i = 10 by omega), if_neg (fun z => h1168 z.2), hb2 (by omega)]) ?_)
                      exact mg1140
                    · skip
                      have h1168 : (mng σ k2 (sgn σ k2 d2 i)) = (mns σ k1 d1 i) := (nI_eq (by omega) (by omega)).mp h1168
                      refine lv_iload hx hb dL_acts_1171 (lv_at hl 15 rfl) ?_
                      refine lv_goto (tgt := 1178) hx hb dL_acts_1173 (by decide) ?_
                      refine lv_topi (nm_r (e' := (nI (bst σ k1 d1 k2 d2 i))) (by unfold bst; rw [if_neg (show ¬ mns σ k1 d1 i = 10 by omega), if_pos ⟨by omega, h1168⟩]) ?_)
                      exact mg1140
              refine lv_iload hx hb dL_acts_1114 (lv_at hl 12 rfl) ?_
              refine lv_if_ne (tgt := 1133) hx hb dL_acts_1116 (by decide) (fun h1116 => ?_) (fun h1116 => ?_)
              · skip
                have h1116 : ¬ (lk = 0) := fun q => h1116 ((z_eq0 (by omega)).mpr q)
                have h1116 : 0 < lk := Nat.pos_of_ne_zero h1116
                refine lv_iconst (v := nI 1) hx hb dL_acts_1133 (by decide) ?_
                refine lv_goto (tgt := 1138) hx hb dL_acts_1134 (by decide) ?_
                refine lv_topi (nm_r (e' := (nI (if lk = 1 ∨ (mns σ k1 d1 i < 10 ∧ fw σ k2 (mns σ k1 d1 i) j = 10) then 1 else 0))) (by rw [if_pos (Or.inl (by omega))]) ?_)
                exact mg1114
              · skip
                have h1116 : lk = 0 := (z_eq0 (by omega)).mp h1116
                refine lv_iload hx hb dL_acts_1119 (lv_at hl 14 rfl) ?_
                refine lv_bipush (v := nI 10) hx hb dL_acts_1121 (by decide) ?_
                refine lv_icmp_ge (tgt := 1137) hx hb dL_acts_1123 (by decide) (fun h1123 => ?_) (fun h1123 => ?_)
                · skip
                  have h1123 : 10 ≤ (mns σ k1 d1 i) := (nI_leI (by omega) (by omega)).mp h1123
                  refine lv_iconst (v := nI 0) hx hb dL_acts_1137 (by decide) ?_
                  refine lv_topi (nm_r (e' := (nI (if lk = 1 ∨ (mns σ k1 d1 i < 10 ∧ fw σ k2 (mns σ k1 d1 i) j = 10) then 1 else 0))) (by rw [if_neg (by omega)]) ?_)
                  exact mg1114
                · skip
                  have h1123 : ¬ (10 ≤ (mns σ k1 d1 i)) := fun q => h1123 ((nI_leI (by omega) (by omega)).mpr q)
                  refine lv_iload hx hb dL_acts_1126 (lv_at hl 16 rfl) ?_
                  refine lv_bipush (v := nI 10) hx hb dL_acts_1128 (by decide) ?_
                  refine lv_icmp_ne (tgt := 1137) hx hb dL_acts_1130 (by decide) (fun h1130 => ?_) (fun h1130 => ?_)
                  · skip
                    have h1130 : ¬ ((fw σ k2 (mns σ k1 d1 i) j) = 10) := fun q => h1130 ((nI_eq (by omega) (by omega)).mpr q)
                    refine lv_iconst (v := nI 0) hx hb dL_acts_1137 (by decide) ?_
                    refine lv_topi (nm_r (e' := (nI (if lk = 1 ∨ (mns σ k1 d1 i < 10 ∧ fw σ k2 (mns σ k1 d1 i) j = 10) then 1 else 0))) (by rw [if_neg (by omega)]) ?_)
                    exact mg1114
                  · skip
                    have h1130 : (fw σ k2 (mns σ k1 d1 i) j) = 10 := (nI_eq (by omega) (by omega)).mp h1130
                    refine lv_iconst (v := nI 1) hx hb dL_acts_1133 (by decide) ?_
                    refine lv_goto (tgt := 1138) hx hb dL_acts_1134 (by decide) ?_
                    refine lv_topi (nm_r (e' := (nI (if lk = 1 ∨ (mns σ k1 d1 i < 10 ∧ fw σ k2 (mns σ k1 d1 i) j = 10) then 1 else 0))) (by rw [if_pos (Or.inr ⟨by omega, h1130⟩)]) ?_)
                    exact mg1114
            · skip
              have h1072 : ¬ (10 - j = 0) := fun q => h1072 ((zdm_lt (by omega)).mpr q)
              refine lv_iload hx hb dL_acts_1075 (lv_at hl 14 rfl) ?_
              refine lv_bipush (v := nI 10) hx hb dL_acts_1077 (by decide) ?_
              refine lv_icmp_ge (tgt := 1114) hx hb dL_acts_1079 (by decide) (fun h1079 => ?_) (fun h1079 => ?_)
              · skip
                have h1079 : 10 ≤ (mns σ k1 d1 i) := (nI_leI (by omega) (by omega)).mp h1079
                have hb1 : mns σ k1 d1 i = 10 → fw σ k2 (mns σ k1 d1 i) j = 10 := fun z => by rw [hw10 z]; rfl
                have hb2 : mns σ k1 d1 i < 10 → fw σ k2 (mns σ k1 d1 i) j = lws σ k2 (mns σ k1 d1 i) := fun z => by exfalso; omega
                have mg1114 : W pr l en (zRm 7 176) st mi ar bl me cd H locs 0 0 Q (F0 mi 1138 ls [.int (nI (if lk = 1 ∨ (mns σ k1 d1 i < 10 ∧ fw σ k2 (mns σ k1 d1 i) j = 10) then 1 else 0))]) := by
                  refine lv_istore (lv' := [(37, .int (nI (if lk = 1 ∨ (mns σ k1 d1 i < 10 ∧ fw σ k2 (mns σ k1 d1 i) j = 10) then 1 else 0))), (0, .ref (ad 0 0)), (1, .ref (q 0)), (2, .ref (q 1)), (3, .ref (q 2)), (4, .ref (q 3)), (13, .int (nI e)), (30, .int (nI k1)), (31, .int (nI k2)), (32, .int (nI d2)), (33, .int (nI d1)), (34, .long (lN (nxt σ k1 d1 k2 d2 i))), (36, .int (nI mn)), (38, .int (nI i)), (39, .int (nI (mns σ k1 d1 i))), (40, .int (nI (sgn σ k2 d2 i))), (41, .int (nI (fw σ k2 (mns σ k1 d1 i) j))), (42, .int (nI (10 - j) - nI 1))]) hx hb dL_acts_1138 hl (by decide) rfl (fun ls hl => ?_)
                  have mg1140 : W pr l en (zRm 7 176) st mi ar bl me cd H locs 0 0 Q (F0 mi 1178 ls [.int (nI (bst σ k1 d1 k2 d2 i))]) := by
                    refine lv_istore (lv' := [(41, .int (nI (bst σ k1 d1 k2 d2 i))), (37, .int (nI (if lk = 1 ∨ (mns σ k1 d1 i < 10 ∧ fw σ k2 (mns σ k1 d1 i) j = 10) then 1 else 0))), (0, .ref (ad 0 0)), (1, .ref (q 0)), (2, .ref (q 1)), (3, .ref (q 2)), (4, .ref (q 3)), (13, .int (nI e)), (30, .int (nI k1)), (31, .int (nI k2)), (32, .int (nI d2)), (33, .int (nI d1)), (34, .long (lN (nxt σ k1 d1 k2 d2 i))), (36, .int (nI mn)), (38, .int (nI i)), (39, .int (nI (mns σ k1 d1 i))), (40, .int (nI (sgn σ k2 d2 i))), (42, .int (nI (10 - j) - nI 1))]) hx hb dL_acts_1178 hl (by decide) rfl (fun ls hl => ?_)
                    refine lv_iload hx hb dL_acts_1180 (lv_at hl 13 rfl) ?_
                    have mg1182 : W pr l en (zRm 7 176) st mi ar bl me cd H locs 0 0 Q (F0 mi 1194 ls [.int (nI (if bst σ k1 d1 k2 d2 i = sgn σ k2 d2 i then 0 else 1)), .int (nI mn)]) := by
                      refine lv_iadd hx hb dL_acts_1194 ?_
                      refine lv_topi (nm_r (e' := nI (mn + (if bst σ k1 d1 k2 d2 i = sgn σ k2 d2 i then 0 else 1))) (nI_add _ _) ?_)
                      refine lv_istore (lv' := [(36, .int (nI (mn + (if bst σ k1 d1 k2 d2 i = sgn σ k2 d2 i then 0 else 1)))), (41, .int (nI (bst σ k1 d1 k2 d2 i))), (37, .int (nI (if lk = 1 ∨ (mns σ k1 d1 i < 10 ∧ fw σ k2 (mns σ k1 d1 i) j = 10) then 1 else 0))), (0, .ref (ad 0 0)), (1, .ref (q 0)), (2, .ref (q 1)), (3, .ref (q 2)), (4, .ref (q 3)), (13, .int (nI e)), (30, .int (nI k1)), (31, .int (nI k2)), (32, .int (nI d2)), (33, .int (nI d1)), (34, .long (lN (nxt σ k1 d1 k2 d2 i))), (38, .int (nI i)), (39, .int (nI (mns σ k1 d1 i))), (40, .int (nI (sgn σ k2 d2 i))), (42, .int (nI (10 - j) - nI 1))]) hx hb dL_acts_1195 hl (by decide) rfl (fun ls hl => ?_)
                      refine lv_lload hx hb dL_acts_1197 (lv_at hl 13 rfl) ?_
                      refine lv_iload hx hb dL_acts_1199 (lv_at hl 1 rfl) ?_
                      refine lv_iload hx hb dL_acts_1201 (lv_at hl 16 rfl) ?_
                      refine lv_isub hx hb dL_acts_1203 ?_
                      refine lv_i2l hx hb dL_acts_1204 rfl ?_
                      refine lv_bipush (v := nI 11) hx hb dL_acts_1205 (by decide) ?_
                      refine lv_iload hx hb dL_acts_1207 (lv_at hl 14 rfl) ?_
                      refine zrdS (As := [.int (nI 11), .int (nI i)]) ⟨hx, hb, hml, hown, hts⟩ (kL_power l G  11 i (by omega) (by omega) (by omega)) (va_cwS 2 hts gL_acts_L_power rfl rfl rfl (by decide +kernel) ⟨Nat.le_of_ble_eq_true rfl, Nat.le_of_ble_eq_true rfl⟩) hG (trivial) rfl rfl hl.1 dL_acts_1209 (Nat.le_of_ble_eq_true rfl) ⟨Nat.le_of_ble_eq_true rfl, Nat.le_of_ble_eq_true rfl⟩ ?_
                      refine lv_lmul hx hb dL_acts_1212 ?_
                      refine lv_ladd hx hb dL_acts_1213 ?_
                      refine lv_topl (nm_r (e' := (lN (nxt σ k1 d1 k2 d2 (i + 1)))) (zl_up (by omega) (by omega) (nxt_up σ k1 d1 k2 d2 (by omega))) ?_)
                      refine lv_lstore (lv' := [(34, .long (lN (nxt σ k1 d1 k2 d2 (i + 1)))), (36, .int (nI (mn + (if bst σ k1 d1 k2 d2 i = sgn σ k2 d2 i then 0 else 1)))), (41, .int (nI (bst σ k1 d1 k2 d2 i))), (37, .int (nI (if lk = 1 ∨ (mns σ k1 d1 i < 10 ∧ fw σ k2 (mns σ k1 d1 i) j = 10) then 1 else 0))), (0, .ref (ad 0 0)), (1, .ref (q 0)), (2, .ref (q 1)), (3, .ref (q 2)), (4, .ref (q 3)), (13, .int (nI e)), (30, .int (nI k1)), (31, .int (nI k2)), (32, .int (nI d2)), (33, .int (nI d1)), (38, .int (nI i)), (39, .int (nI (mns σ k1 d1 i))), (40, .int (nI (sgn σ k2 d2 i))), (42, .int (nI (10 - j) - nI 1))]) hx hb dL_acts_1214 hl (by decide) rfl (fun ls hl => ?_)
                      refine lv_iinc (v := nI (i + 1)) (lv' := [(38, .int (nI (i + 1))), (34, .long (lN (nxt σ k1 d1 k2 d2 (i + 1)))), (36, .int (nI (mn + (if bst σ k1 d1 k2 d2 i = sgn σ k2 d2 i then 0 else 1)))), (41, .int (nI (bst σ k1 d1 k2 d2 i))), (37, .int (nI (if lk = 1 ∨ (mns σ k1 d1 i < 10 ∧ fw σ k2 (mns σ k1 d1 i) j = 10) then 1 else 0))), (0, .ref (ad 0 0)), (1, .ref (q 0)), (2, .ref (q 1)), (3, .ref (q 2)), (4, .ref (q 3)), (13, .int (nI e)), (30, .int (nI k1)), (31, .int (nI k2)), (32, .int (nI d2)), (33, .int (nI d1)), (39, .int (nI (mns σ k1 d1 i))), (40, .int (nI (sgn σ k2 d2 i))), (42, .int (nI (10 - j) - nI 1))]) hx hb dL_acts_1216 hl (k := 14) rfl (zinc1 _) (by decide) rfl (fun ls hl => ?_)
                      refine lv_goto (tgt := 1030) hx hb dL_acts_1219 (by decide) ?_
                      have hlk2 : ((if lk = 1 ∨ (mns σ k1 d1 i < 10 ∧ fw σ k2 (mns σ k1 d1 i) j = 10) then 1 else 0) = 1 ↔ lck σ k1 d1 k2 (i + 1)) := by
                        rw [lck_s, ← hlk.2]
                        constructor
                        · intro z
                          by_cases y : lk = 1 ∨ (mns σ k1 d1 i < 10 ∧ fw σ k2 (mns σ k1 d1 i) j = 10)
                          · exact y.imp id (fun w => ⟨w.1, by rw [← hb2 w.1]; exact w.2⟩)
                          · rw [if_neg y] at z
                            omega
                        · intro z
                          rw [if_pos (z.imp id (fun w => ⟨w.1, by rw [hb2 w.1]; exact w.2⟩))]
                      exact ih1030 (i + 1) (mn + (if bst σ k1 d1 k2 d2 i = sgn σ k2 d2 i then 0 else 1)) (if lk = 1 ∨ (mns σ k1 d1 i < 10 ∧ fw σ k2 (mns σ k1 d1 i) j = 10) then 1 else 0) (by rw [hmn]; rfl) (⟨by split <;> omega, hlk2⟩) (by omega) (by omega) _ (lv_sub hl [5, 6, 7, 8, 9, 10, 11, 12, 13, 14, 1, 2, 4, 0] rfl) _ _ hP hD hS
                    refine lv_iload hx hb dL_acts_1182 (lv_at hl 0 rfl) ?_
                    refine lv_iload hx hb dL_acts_1184 (lv_at hl 16 rfl) ?_
                    refine lv_icmp_ne (tgt := 1193) hx hb dL_acts_1186 (by decide) (fun h1186 => ?_) (fun h1186 => ?_)
                    · skip
                      have h1186 : ¬ ((bst σ k1 d1 k2 d2 i) = (sgn σ k2 d2 i)) := fun q => h1186 ((nI_eq (by omega) (by omega)).mpr q)
                      refine lv_iconst (v := nI 1) hx hb dL_acts_1193 (by decide) ?_
                      refine lv_topi (nm_r (e' := (nI (if bst σ k1 d1 k2 d2 i = sgn σ k2 d2 i then 0 else 1))) (by rw [if_neg h1186]) ?_)
                      exact mg1182
                    · skip
                      have h1186 : (bst σ k1 d1 k2 d2 i) = (sgn σ k2 d2 i) := (nI_eq (by omega) (by omega)).mp h1186
                      refine lv_iconst (v := nI 0) hx hb dL_acts_1189 (by decide) ?_
                      refine lv_goto (tgt := 1194) hx hb dL_acts_1190 (by decide) ?_
                      refine lv_topi (nm_r (e' := (nI (if bst σ k1 d1 k2 d2 i = sgn σ k2 d2 i then 0 else 1))) (by rw [if_pos h1186]) ?_)
                      exact mg1182
                  refine lv_iload hx hb dL_acts_1140 (lv_at hl 14 rfl) ?_
                  refine lv_bipush (v := nI 10) hx hb dL_acts_1142 (by decide) ?_
                  refine lv_icmp_ge (tgt := 1176) hx hb dL_acts_1144 (by decide) (fun h1144 => ?_) (fun h1144 => ?_)
                  · skip
                    have h1144 : 10 ≤ (mns σ k1 d1 i) := (nI_leI (by omega) (by omega)).mp h1144
                    refine lv_iload hx hb dL_acts_1176 (lv_at hl 16 rfl) ?_
                    refine lv_topi (nm_r (e' := (nI (bst σ k1 d1 k2 d2 i))) (by unfold bst; rw [if_pos (show mns σ k1 d1 i = 10 by omega), hb1 (by omega)]) ?_)
                    exact mg1140
                  · skip
                    have h1144 : ¬ (10 ≤ (mns σ k1 d1 i)) := fun q => h1144 ((nI_leI (by omega) (by omega)).mpr q)
                    refine lv_iload hx hb dL_acts_1147 (lv_at hl 15 rfl) ?_
                    refine lv_bipush (v := nI 10) hx hb dL_acts_1149 (by decide) ?_
                    refine lv_icmp_ge (tgt := 1176) hx hb dL_acts_1151 (by decide) (fun h1151 => ?_) (fun h1151 => ?_)
                    · skip
                      have h1151 : 10 ≤ (sgn σ k2 d2 i) := (nI_leI (by omega) (by omega)).mp h1151
                      refine lv_iload hx hb dL_acts_1176 (lv_at hl 16 rfl) ?_
                      refine lv_topi (nm_r (e' := (nI (bst σ k1 d1 k2 d2 i))) (by unfold bst; rw [if_neg (show ¬ mns σ k1 d1 i = 10 by omega), if_neg (fun z => by omega), hb2 (by omega)]) ?_)
                      exact mg1140
                    · skip
                      have h1151 : ¬ (10 ≤ (sgn σ k2 d2 i)) := fun q => h1151 ((nI_leI (by omega) (by omega)).mpr q)
                      have hmgs := hO.mg (show k2 < 36 by omega) (show sgn σ k2 d2 i < 10 by omega)
                      refine lv_aload hx hb dL_acts_1154 (lv_at hl 5 rfl) ?_
                      refine lv_iload hx hb dL_acts_1156 (lv_at hl 8 rfl) ?_
                      refine va_lald hx hb hG.1 hP 3 3 rfl rfl (vp_in_nI (n := k2) (N := 6) (by omega) (by omega)) dL_acts_1158 ?_
                      refine lv_topl (nm_r (e' := (lN (bN σ k2))) (by rw [nI_clamp (by omega)]; rfl) ?_)
                      refine lv_bipush (v := nI 10) hx hb dL_acts_1159 (by decide) ?_
                      refine lv_iload hx hb dL_acts_1161 (lv_at hl 15 rfl) ?_
                      refine zrdS (As := [.long (lN (bN σ k2)), .int (nI 10), .int (nI (sgn σ k2 d2 i))]) ⟨hx, hb, hml, hown, hts⟩ (kL_digit l G  (bN σ k2) 10 (sgn σ k2 d2 i) (by omega) (by omega) (by omega) (by omega)) (va_cwS 3 hts gL_acts_L_digit rfl rfl rfl (by decide +kernel) ⟨Nat.le_of_ble_eq_true rfl, Nat.le_of_ble_eq_true rfl⟩) hG (trivial) rfl rfl hl.1 dL_acts_1163 (Nat.le_of_ble_eq_true rfl) ⟨Nat.le_of_ble_eq_true rfl, Nat.le_of_ble_eq_true rfl⟩ ?_
                      refine lv_topi (nm_r (e' := (nI (mng σ k2 (sgn σ k2 d2 i)))) (congrArg nI (bN_dg hO (by omega) (by omega))) ?_)
                      refine lv_iload hx hb dL_acts_1166 (lv_at hl 14 rfl) ?_
                      refine lv_icmp_ne (tgt := 1176) hx hb dL_acts_1168 (by decide) (fun h1168 => ?_) (fun h1168 => ?_)
                      · skip
                        have h1168 : ¬ ((mng σ k2 (sgn σ k2 d2 i)) = (mns σ k1 d1 i)) := fun q => h1168 ((nI_eq (by omega) (by omega)).mpr q)
                        refine lv_iload hx hb dL_acts_1176 (lv_at hl 16 rfl) ?_
                        refine lv_topi (nm_r (e' := (nI (bst σ k1 d1 k2 d2 i))) (by unfold bst; rw [if_neg (show ¬ mns σ k1 d1 i = 10 by omega), if_neg (fun z => h1168 z.2), hb2 (by omega)]) ?_)
                        exact mg1140
                      · skip
                        have h1168 : (mng σ k2 (sgn σ k2 d2 i)) = (mns σ k1 d1 i) := (nI_eq (by omega) (by omega)).mp h1168
                        refine lv_iload hx hb dL_acts_1171 (lv_at hl 15 rfl) ?_
                        refine lv_goto (tgt := 1178) hx hb dL_acts_1173 (by decide) ?_
                        refine lv_topi (nm_r (e' := (nI (bst σ k1 d1 k2 d2 i))) (by unfold bst; rw [if_neg (show ¬ mns σ k1 d1 i = 10 by omega), if_pos ⟨by omega, h1168⟩]) ?_)
                        exact mg1140
                refine lv_iload hx hb dL_acts_1114 (lv_at hl 12 rfl) ?_
                refine lv_if_ne (tgt := 1133) hx hb dL_acts_1116 (by decide) (fun h1116 => ?_) (fun h1116 => ?_)
                · skip
                  have h1116 : ¬ (lk = 0) := fun q => h1116 ((z_eq0 (by omega)).mpr q)
                  have h1116 : 0 < lk := Nat.pos_of_ne_zero h1116
                  refine lv_iconst (v := nI 1) hx hb dL_acts_1133 (by decide) ?_
                  refine lv_goto (tgt := 1138) hx hb dL_acts_1134 (by decide) ?_
                  refine lv_topi (nm_r (e' := (nI (if lk = 1 ∨ (mns σ k1 d1 i < 10 ∧ fw σ k2 (mns σ k1 d1 i) j = 10) then 1 else 0))) (by rw [if_pos (Or.inl (by omega))]) ?_)
                  exact mg1114
                · skip
                  have h1116 : lk = 0 := (z_eq0 (by omega)).mp h1116
                  refine lv_iload hx hb dL_acts_1119 (lv_at hl 14 rfl) ?_
                  refine lv_bipush (v := nI 10) hx hb dL_acts_1121 (by decide) ?_
                  refine lv_icmp_ge (tgt := 1137) hx hb dL_acts_1123 (by decide) (fun h1123 => ?_) (fun h1123 => ?_)
                  · skip
                    have h1123 : 10 ≤ (mns σ k1 d1 i) := (nI_leI (by omega) (by omega)).mp h1123
                    refine lv_iconst (v := nI 0) hx hb dL_acts_1137 (by decide) ?_
                    refine lv_topi (nm_r (e' := (nI (if lk = 1 ∨ (mns σ k1 d1 i < 10 ∧ fw σ k2 (mns σ k1 d1 i) j = 10) then 1 else 0))) (by rw [if_neg (by omega)]) ?_)
                    exact mg1114
                  · skip
                    have h1123 : ¬ (10 ≤ (mns σ k1 d1 i)) := fun q => h1123 ((nI_leI (by omega) (by omega)).mpr q)
                    refine lv_iload hx hb dL_acts_1126 (lv_at hl 16 rfl) ?_
                    refine lv_bipush (v := nI 10) hx hb dL_acts_1128 (by decide) ?_
                    refine lv_icmp_ne (tgt := 1137) hx hb dL_acts_1130 (by decide) (fun h1130 => ?_) (fun h1130 => ?_)
                    · skip
                      have h1130 : ¬ ((fw σ k2 (mns σ k1 d1 i) j) = 10) := fun q => h1130 ((nI_eq (by omega) (by omega)).mpr q)
                      refine lv_iconst (v := nI 0) hx hb dL_acts_1137 (by decide) ?_
                      refine lv_topi (nm_r (e' := (nI (if lk = 1 ∨ (mns σ k1 d1 i < 10 ∧ fw σ k2 (mns σ k1 d1 i) j = 10) then 1 else 0))) (by rw [if_neg (by omega)]) ?_)
                      exact mg1114
                    · skip
                      have h1130 : (fw σ k2 (mns σ k1 d1 i) j) = 10 := (nI_eq (by omega) (by omega)).mp h1130
                      refine lv_iconst (v := nI 1) hx hb dL_acts_1133 (by decide) ?_
                      refine lv_goto (tgt := 1138) hx hb dL_acts_1134 (by decide) ?_
                      refine lv_topi (nm_r (e' := (nI (if lk = 1 ∨ (mns σ k1 d1 i < 10 ∧ fw σ k2 (mns σ k1 d1 i) j = 10) then 1 else 0))) (by rw [if_pos (Or.inr ⟨by omega, h1130⟩)]) ?_)
                      exact mg1114
              · skip
                have h1079 : ¬ (10 ≤ (mns σ k1 d1 i)) := fun q => h1079 ((nI_leI (by omega) (by omega)).mpr q)
                have hmg9 := hO.mg (show k2 < 36 by omega) (show 9 - j < 10 by omega)
                have mg1082 : W pr l en (zRm 7 176) st mi ar bl me cd H locs 0 0 Q (F0 mi 1106 ls [.int (nI (fw σ k2 (mns σ k1 d1 i) (j + 1)))]) := by
                  refine lv_istore (lv' := [(41, .int (nI (fw σ k2 (mns σ k1 d1 i) (j + 1)))), (0, .ref (ad 0 0)), (1, .ref (q 0)), (2, .ref (q 1)), (3, .ref (q 2)), (4, .ref (q 3)), (13, .int (nI e)), (30, .int (nI k1)), (31, .int (nI k2)), (32, .int (nI d2)), (33, .int (nI d1)), (34, .long (lN (nxt σ k1 d1 k2 d2 i))), (36, .int (nI mn)), (37, .int (nI lk)), (38, .int (nI i)), (39, .int (nI (mns σ k1 d1 i))), (40, .int (nI (sgn σ k2 d2 i))), (42, .int (nI (10 - j) - nI 1))]) hx hb dL_acts_1106 hl (by decide) rfl (fun ls hl => ?_)
                  refine lv_iinc (v := nI (10 - (j + 1)) - nI 1) (lv' := [(42, .int (nI (10 - (j + 1)) - nI 1)), (41, .int (nI (fw σ k2 (mns σ k1 d1 i) (j + 1)))), (0, .ref (ad 0 0)), (1, .ref (q 0)), (2, .ref (q 1)), (3, .ref (q 2)), (4, .ref (q 3)), (13, .int (nI e)), (30, .int (nI k1)), (31, .int (nI k2)), (32, .int (nI d2)), (33, .int (nI d1)), (34, .long (lN (nxt σ k1 d1 k2 d2 i))), (36, .int (nI mn)), (37, .int (nI lk)), (38, .int (nI i)), (39, .int (nI (mns σ k1 d1 i))), (40, .int (nI (sgn σ k2 d2 i)))]) hx hb dL_acts_1108 hl (k := 17) rfl (by rw [pk_sub (by omega), zdm, show 10 - j - 1 = 10 - (j + 1) by omega]) (by decide) rfl (fun ls hl => ?_)
                  refine lv_goto (tgt := 1070) hx hb dL_acts_1111 (by decide) ?_
                  exact ih1070 (j + 1) (by omega) (fun z => by omega) (by omega) _ (lv_sub hl [2, 3, 4, 5, 6, 7, 8, 9, 10, 11, 12, 13, 14, 15, 16, 17, 1, 0] rfl) _ _ hP hD hS
                refine lv_aload hx hb dL_acts_1082 (lv_at hl 4 rfl) ?_
                refine lv_iload hx hb dL_acts_1084 (lv_at hl 7 rfl) ?_
                refine va_lald hx hb hG.1 hP 3 3 rfl rfl (vp_in_nI (n := k2) (N := 6) (by omega) (by omega)) dL_acts_1086 ?_
                refine lv_topl (nm_r (e' := (lN (bN σ k2))) (by rw [nI_clamp (by omega)]; rfl) ?_)
                refine lv_bipush (v := nI 10) hx hb dL_acts_1087 (by decide) ?_
                refine lv_iload hx hb dL_acts_1089 (lv_at hl 17 rfl) ?_
                refine lv_topi (nm_r (e' := (nI (9 - j))) (by rw [pk_sub (by omega), show 10 - j - 1 = 9 - j by omega]) ?_)
                refine zrdS (As := [.long (lN (bN σ k2)), .int (nI 10), .int (nI (9 - j))]) ⟨hx, hb, hml, hown, hts⟩ (kL_digit l G  (bN σ k2) 10 (9 - j) (by omega) (by omega) (by omega) (by omega)) (va_cwS 3 hts gL_acts_L_digit rfl rfl rfl (by decide +kernel) ⟨Nat.le_of_ble_eq_true rfl, Nat.le_of_ble_eq_true rfl⟩) hG (trivial) rfl rfl hl.1 dL_acts_1091 (Nat.le_of_ble_eq_true rfl) ⟨Nat.le_of_ble_eq_true rfl, Nat.le_of_ble_eq_true rfl⟩ ?_
                refine lv_topi (nm_r (e' := (nI (mng σ k2 (9 - j)))) (congrArg nI (bN_dg hO (by omega) (by omega))) ?_)
                refine lv_iload hx hb dL_acts_1094 (lv_at hl 14 rfl) ?_
                refine lv_icmp_ne (tgt := 1104) hx hb dL_acts_1096 (by decide) (fun h1096 => ?_) (fun h1096 => ?_)
                · skip
                  have h1096 : ¬ ((mng σ k2 (9 - j)) = (mns σ k1 d1 i)) := fun q => h1096 ((nI_eq (by omega) (by omega)).mpr q)
                  refine lv_iload hx hb dL_acts_1104 (lv_at hl 16 rfl) ?_
                  refine lv_topi (nm_r (e' := (nI (fw σ k2 (mns σ k1 d1 i) (j + 1)))) (by rw [fw, if_neg h1096]) ?_)
                  exact mg1082
                · skip
                  have h1096 : (mng σ k2 (9 - j)) = (mns σ k1 d1 i) := (nI_eq (by omega) (by omega)).mp h1096
                  refine lv_iload hx hb dL_acts_1099 (lv_at hl 17 rfl) ?_
                  refine lv_topi (nm_r (e' := (nI (9 - j))) (by rw [pk_sub (by omega), show 10 - j - 1 = 9 - j by omega]) ?_)
                  refine lv_goto (tgt := 1106) hx hb dL_acts_1101 (by decide) ?_
                  refine lv_topi (nm_r (e' := (nI (fw σ k2 (mns σ k1 d1 i) (j + 1)))) (by rw [fw, if_pos h1096]) ?_)
                  exact mg1082
        exact loop1070 11 0 (by omega) (fun _ => rfl) (by omega) _ (lv_sub hl [4, 5, 6, 7, 8, 9, 10, 11, 12, 13, 14, 15, 16, 17, 3, 2, 1, 0] rfl) _ _ hP hD hS
  exact loop1030 11 0 0 0 (rfl) (⟨by omega, ⟨fun z => by omega, fun ⟨q, h1, _⟩ => absurd h1 (Nat.not_lt_zero q)⟩⟩) (by omega) (by omega) _ (lv_sub hl [4, 5, 6, 7, 8, 9, 10, 11, 12, 13, 3, 2, 1, 0] rfl) _ _ hP hD hS
set_option maxHeartbeats 8000000 in
set_option maxRecDepth 100000 in
theorem ac_settle {pr : Program} {l : Launch} {en : Env} {st : State} {mi : MethodId} {ar : Array Value} {bl : List Frame} {me : Method} {cd : Code} {Q : State → Prop} {G : zG} {q : Nat → Nat} {ad : Nat → Nat → Nat} {σ : Nat → Nat} {T : Nat → Nat → Nat} {o n : Nat} {f : Nat → Int32} {x : Nat → Nat} {len : Nat} {N : Nat} {A0 : Nat → Prop} {H : Heap} {locs : List Loc} {ls : Array Slot} {v e : Nat} (C0 : AC pr st mi ar cd G) (hJ : Jv N σ o n) (hN : N + 1 < 100000) (hv : v < 10000000) (hes : e < nE σ ∨ (nE σ = 0 ∧ e = 0)) (hP : va_P G.1 vwCl ((wL G q σ) ++ wX G ad σ T o n f x len) H) (hD : va_D A0 ((wL G q σ) ++ wX G ad σ T o n f x len)) (hS : va_S A0 st.heap H locs) (hl : lv_has ls 43 [(0, .ref (ad 0 0)), (1, .ref (q 0)), (2, .ref (q 1)), (3, .ref (q 2)), (4, .ref (q 3)), (6, .int (nI v)), (13, .int (nI e)), (14, .int (eL σ e))]) (hret : AR pr l en st mi ar bl me cd Q G q ad x len A0 (N + 1)) : W pr l en (zRm 7 176) st mi ar bl me cd H locs 0 0 Q (F0 mi 865 ls []) := by
  obtain ⟨hx, hb, hml, hown, hts, hG⟩ := id C0
  obtain ⟨hO, hC, ho, hn, hM⟩ := id hJ
  have hc := hO.c
  have hs := hO.lS
  have hne := hO.lE
  have hM6 := hM.s
  have hM7 := hM.e
  have hM4 := hM.r
  have hM1 := hM.1
  have hM2 := hM.2
  have hNN := hO.N
  have hg2 := hO.2.2.1
  have hg3 := hO.2.2.2.1
  refine lv_iload hx hb dL_acts_865 (lv_at hl 7 rfl) ?_
  refine lv_if_ge (tgt := 886) hx hb dL_acts_867 (by decide) (fun h867 => ?_) (fun h867 => ?_)
  · skip
    have h867 : e < nE σ := (eL_ge hO hM).mp h867
    have hen : e < nE σ := by omega
    have h10 := its_10 hO hM hen
    have hff := its_f hO hM hen
    have hag01 := hO.ag (show e < 60 by omega)
    have hql := qrl_le σ e
    rw [eL_in hen] at hl
    refine lv_iload hx hb dL_acts_886 (lv_at hl 5 rfl) ?_
    have hfd := fD_lt σ e
    have hsd := sD_lt σ e
    refine lv_iconst (v := nI 2) hx hb dL_acts_888 (by decide) ?_
    refine lv_irem hx hb dL_acts_889 (nI_ne0 (by omega) (by omega)) ?_
    refine lv_topi (nm_r (e' := nI (v % 2)) (pk_rem (by omega) (by omega) (by omega)) ?_)
    refine lv_if_ne (tgt := 897) hx hb dL_acts_890 (by decide) (fun h890 => ?_) (fun h890 => ?_)
    · skip
      have h890 : ¬ ((v % 2) = 0) := fun q => h890 ((z_eq0 (by omega)).mpr q)
      have h890 : 0 < (v % 2) := Nat.pos_of_ne_zero h890
      refine lv_iconst (v := nI 0) hx hb dL_acts_897 (by decide) ?_
      refine lv_istore (lv' := [(29, .int (nI 0)), (0, .ref (ad 0 0)), (1, .ref (q 0)), (2, .ref (q 1)), (3, .ref (q 2)), (4, .ref (q 3)), (6, .int (nI v)), (13, .int (nI e)), (14, .int (nI (its σ e)))]) hx hb dL_acts_898 hl (by decide) rfl (fun ls hl => ?_)
      refine lv_iload hx hb dL_acts_900 (lv_at hl 0 rfl) ?_
      refine lv_if_eq (tgt := 913) hx hb dL_acts_902 (by decide) (fun h902 => ?_) (fun h902 => ?_)
      · skip
        have h902 : 0 = 0 := (z_eq0 (by omega)).mp h902
        refine lv_aload_n hx hb dL_acts_913 rfl (lv_at hl 2 rfl) ?_
        refine lv_iload hx hb dL_acts_914 (lv_at hl 8 rfl) ?_
        refine zrdS (As := [.ref (q 0), .int (nI (its σ e))]) ⟨hx, hb, hml, hown, hts⟩ (kL_other l G q σ e (hO) (hM) (by omega)) (va_cwS 2 hts gL_acts_L_other rfl rfl rfl (by decide +kernel) ⟨Nat.le_of_ble_eq_true rfl, Nat.le_of_ble_eq_true rfl⟩) hG (zP_l hP) rfl rfl hl.1 dL_acts_916 (Nat.le_of_ble_eq_true rfl) ⟨Nat.le_of_ble_eq_true rfl, Nat.le_of_ble_eq_true rfl⟩ ?_
        refine lv_istore (lv' := [(30, .int (nI (sS σ e))), (29, .int (nI 0)), (0, .ref (ad 0 0)), (1, .ref (q 0)), (2, .ref (q 1)), (3, .ref (q 2)), (4, .ref (q 3)), (6, .int (nI v)), (13, .int (nI e)), (14, .int (nI (its σ e)))]) hx hb dL_acts_919 hl (by decide) rfl (fun ls hl => ?_)
        refine lv_iload hx hb dL_acts_921 (lv_at hl 1 rfl) ?_
        refine lv_if_eq (tgt := 935) hx hb dL_acts_923 (by decide) (fun h923 => ?_) (fun h923 => ?_)
        · skip
          have h923 : 0 = 0 := (z_eq0 (by omega)).mp h923
          refine lv_iload hx hb dL_acts_935 (lv_at hl 9 rfl) ?_
          refine lv_bipush (v := nI 10) hx hb dL_acts_937 (by decide) ?_
          refine lv_irem hx hb dL_acts_939 (nI_ne0 (by omega) (by omega)) ?_
          refine lv_topi (nm_r (e' := nI ((its σ e) % 10)) (pk_rem (by omega) (by omega) (by omega)) ?_)
          refine lv_topi (nm_r (e' := (nI (fS σ e))) (congrArg nI h10.2.1) ?_)
          refine lv_istore (lv' := [(31, .int (nI (fS σ e))), (30, .int (nI (sS σ e))), (29, .int (nI 0)), (0, .ref (ad 0 0)), (1, .ref (q 0)), (2, .ref (q 1)), (3, .ref (q 2)), (4, .ref (q 3)), (6, .int (nI v)), (13, .int (nI e)), (14, .int (nI (its σ e)))]) hx hb dL_acts_940 hl (by decide) rfl (fun ls hl => ?_)
          refine lv_iload hx hb dL_acts_942 (lv_at hl 2 rfl) ?_
          refine lv_if_eq (tgt := 962) hx hb dL_acts_944 (by decide) (fun h944 => ?_) (fun h944 => ?_)
          · skip
            have h944 : 0 = 0 := (z_eq0 (by omega)).mp h944
            have mg962 : W pr l en (zRm 7 176) st mi ar bl me cd H locs 0 0 Q (F0 mi 974 ls [.int (nI (fD σ e))]) := by
              refine lv_istore (lv' := [(32, .int (nI (fD σ e))), (31, .int (nI (fS σ e))), (30, .int (nI (sS σ e))), (29, .int (nI 0)), (0, .ref (ad 0 0)), (1, .ref (q 0)), (2, .ref (q 1)), (3, .ref (q 2)), (4, .ref (q 3)), (6, .int (nI v)), (13, .int (nI e)), (14, .int (nI (its σ e)))]) hx hb dL_acts_974 hl (by decide) rfl (fun ls hl => ?_)
              refine lv_iload hx hb dL_acts_976 (lv_at hl 3 rfl) ?_
              refine lv_if_eq (tgt := 996) hx hb dL_acts_978 (by decide) (fun h978 => ?_) (fun h978 => ?_)
              · skip
                have h978 : 0 = 0 := (z_eq0 (by omega)).mp h978
                have mg996 : W pr l en (zRm 7 176) st mi ar bl me cd H locs 0 0 Q (F0 mi 1008 ls [.int (nI (sD σ e))]) := by
                  refine lv_istore (lv' := [(33, .int (nI (sD σ e))), (32, .int (nI (fD σ e))), (31, .int (nI (fS σ e))), (30, .int (nI (sS σ e))), (29, .int (nI 0)), (0, .ref (ad 0 0)), (1, .ref (q 0)), (2, .ref (q 1)), (3, .ref (q 2)), (4, .ref (q 3)), (6, .int (nI v)), (13, .int (nI e)), (14, .int (nI (its σ e)))]) hx hb dL_acts_1008 hl (by decide) rfl (fun ls hl => ?_)
                  exact ac_settle2 (k1 := sS σ e) (d1 := sD σ e) (k2 := fS σ e) (d2 := fD σ e) (e := e) C0 hJ hN hen (Or.inr ⟨rfl, rfl, rfl, rfl⟩) hP hD hS (lv_sub hl [5, 6, 7, 8, 9, 11, 3, 2, 1, 0] rfl) hret
                refine lv_iload hx hb dL_acts_996 (lv_at hl 11 rfl) ?_
                refine lv_bipush (v := nI 10) hx hb dL_acts_998 (by decide) ?_
                refine lv_icmp_ge (tgt := 1007) hx hb dL_acts_1000 (by decide) (fun h1000 => ?_) (fun h1000 => ?_)
                · skip
                  have h1000 : 10 ≤ (its σ e) := (nI_leI (by omega) (by omega)).mp h1000
                  refine lv_iconst (v := nI 0) hx hb dL_acts_1007 (by decide) ?_
                  refine lv_topi (nm_r (e' := (nI (sD σ e))) (by unfold sD; rw [if_neg (fun z => by have := h10.1.mpr z; omega)]) ?_)
                  exact mg996
                · skip
                  have h1000 : ¬ (10 ≤ (its σ e)) := fun q => h1000 ((nI_leI (by omega) (by omega)).mpr q)
                  refine lv_iconst (v := nI 3) hx hb dL_acts_1003 (by decide) ?_
                  refine lv_goto (tgt := 1008) hx hb dL_acts_1004 (by decide) ?_
                  refine lv_topi (nm_r (e' := (nI (sD σ e))) (by unfold sD; rw [if_pos (h10.1.mp (by omega))]) ?_)
                  exact mg996
              · skip
                have h978 : ¬ (0 = 0) := fun q => h978 ((z_eq0 (by omega)).mpr q)
                have h978 : 0 < 0 := Nat.pos_of_ne_zero h978
                exfalso; omega
            refine lv_iload hx hb dL_acts_962 (lv_at hl 10 rfl) ?_
            refine lv_bipush (v := nI 10) hx hb dL_acts_964 (by decide) ?_
            refine lv_icmp_ge (tgt := 973) hx hb dL_acts_966 (by decide) (fun h966 => ?_) (fun h966 => ?_)
            · skip
              have h966 : 10 ≤ (its σ e) := (nI_leI (by omega) (by omega)).mp h966
              refine lv_iconst (v := nI 2) hx hb dL_acts_973 (by decide) ?_
              refine lv_topi (nm_r (e' := (nI (fD σ e))) (by unfold fD; rw [if_neg (fun z => by have := h10.1.mpr z; omega)]) ?_)
              exact mg962
            · skip
              have h966 : ¬ (10 ≤ (its σ e)) := fun q => h966 ((nI_leI (by omega) (by omega)).mpr q)
              refine lv_iconst (v := nI 1) hx hb dL_acts_969 (by decide) ?_
              refine lv_goto (tgt := 974) hx hb dL_acts_970 (by decide) ?_
              refine lv_topi (nm_r (e' := (nI (fD σ e))) (by unfold fD; rw [if_pos (h10.1.mp (by omega))]) ?_)
              exact mg962
          · skip
            have h944 : ¬ (0 = 0) := fun q => h944 ((z_eq0 (by omega)).mpr q)
            have h944 : 0 < 0 := Nat.pos_of_ne_zero h944
            exfalso; omega
        · skip
          have h923 : ¬ (0 = 0) := fun q => h923 ((z_eq0 (by omega)).mpr q)
          have h923 : 0 < 0 := Nat.pos_of_ne_zero h923
          exfalso; omega
      · skip
        have h902 : ¬ (0 = 0) := fun q => h902 ((z_eq0 (by omega)).mpr q)
        have h902 : 0 < 0 := Nat.pos_of_ne_zero h902
        exfalso; omega
    · skip
      have h890 : (v % 2) = 0 := (z_eq0 (by omega)).mp h890
      refine lv_iconst (v := nI 1) hx hb dL_acts_893 (by decide) ?_
      refine lv_goto (tgt := 898) hx hb dL_acts_894 (by decide) ?_
      refine lv_istore (lv' := [(29, .int (nI 1)), (0, .ref (ad 0 0)), (1, .ref (q 0)), (2, .ref (q 1)), (3, .ref (q 2)), (4, .ref (q 3)), (6, .int (nI v)), (13, .int (nI e)), (14, .int (nI (its σ e)))]) hx hb dL_acts_898 hl (by decide) rfl (fun ls hl => ?_)
      refine lv_iload hx hb dL_acts_900 (lv_at hl 0 rfl) ?_
      refine lv_if_eq (tgt := 913) hx hb dL_acts_902 (by decide) (fun h902 => ?_) (fun h902 => ?_)
      · skip
        have h902 : 1 = 0 := (z_eq0 (by omega)).mp h902
        exfalso; omega
      · skip
        have h902 : ¬ (1 = 0) := fun q => h902 ((z_eq0 (by omega)).mpr q)
        have h902 : 0 < 1 := Nat.pos_of_ne_zero h902
        refine lv_iload hx hb dL_acts_905 (lv_at hl 8 rfl) ?_
        refine lv_bipush (v := nI 10) hx hb dL_acts_907 (by decide) ?_
        refine lv_irem hx hb dL_acts_909 (nI_ne0 (by omega) (by omega)) ?_
        refine lv_topi (nm_r (e' := nI ((its σ e) % 10)) (pk_rem (by omega) (by omega) (by omega)) ?_)
        refine lv_topi (nm_r (e' := (nI (fS σ e))) (congrArg nI h10.2.1) ?_)
        refine lv_goto (tgt := 919) hx hb dL_acts_910 (by decide) ?_
        refine lv_istore (lv' := [(30, .int (nI (fS σ e))), (29, .int (nI 1)), (0, .ref (ad 0 0)), (1, .ref (q 0)), (2, .ref (q 1)), (3, .ref (q 2)), (4, .ref (q 3)), (6, .int (nI v)), (13, .int (nI e)), (14, .int (nI (its σ e)))]) hx hb dL_acts_919 hl (by decide) rfl (fun ls hl => ?_)
        refine lv_iload hx hb dL_acts_921 (lv_at hl 1 rfl) ?_
        refine lv_if_eq (tgt := 935) hx hb dL_acts_923 (by decide) (fun h923 => ?_) (fun h923 => ?_)
        · skip
          have h923 : 1 = 0 := (z_eq0 (by omega)).mp h923
          exfalso; omega
        · skip
          have h923 : ¬ (1 = 0) := fun q => h923 ((z_eq0 (by omega)).mpr q)
          have h923 : 0 < 1 := Nat.pos_of_ne_zero h923
          refine lv_aload_n hx hb dL_acts_926 rfl (lv_at hl 3 rfl) ?_
          refine lv_iload hx hb dL_acts_927 (lv_at hl 9 rfl) ?_
          refine zrdS (As := [.ref (q 0), .int (nI (its σ e))]) ⟨hx, hb, hml, hown, hts⟩ (kL_other l G q σ e (hO) (hM) (by omega)) (va_cwS 2 hts gL_acts_L_other rfl rfl rfl (by decide +kernel) ⟨Nat.le_of_ble_eq_true rfl, Nat.le_of_ble_eq_true rfl⟩) hG (zP_l hP) rfl rfl hl.1 dL_acts_929 (Nat.le_of_ble_eq_true rfl) ⟨Nat.le_of_ble_eq_true rfl, Nat.le_of_ble_eq_true rfl⟩ ?_
          refine lv_goto (tgt := 940) hx hb dL_acts_932 (by decide) ?_
          refine lv_istore (lv' := [(31, .int (nI (sS σ e))), (30, .int (nI (fS σ e))), (29, .int (nI 1)), (0, .ref (ad 0 0)), (1, .ref (q 0)), (2, .ref (q 1)), (3, .ref (q 2)), (4, .ref (q 3)), (6, .int (nI v)), (13, .int (nI e)), (14, .int (nI (its σ e)))]) hx hb dL_acts_940 hl (by decide) rfl (fun ls hl => ?_)
          refine lv_iload hx hb dL_acts_942 (lv_at hl 2 rfl) ?_
          refine lv_if_eq (tgt := 962) hx hb dL_acts_944 (by decide) (fun h944 => ?_) (fun h944 => ?_)
          · skip
            have h944 : 1 = 0 := (z_eq0 (by omega)).mp h944
            exfalso; omega
          · skip
            have h944 : ¬ (1 = 0) := fun q => h944 ((z_eq0 (by omega)).mpr q)
            have h944 : 0 < 1 := Nat.pos_of_ne_zero h944
            have mg947 : W pr l en (zRm 7 176) st mi ar bl me cd H locs 0 0 Q (F0 mi 974 ls [.int (nI (sD σ e))]) := by
              refine lv_istore (lv' := [(32, .int (nI (sD σ e))), (31, .int (nI (sS σ e))), (30, .int (nI (fS σ e))), (29, .int (nI 1)), (0, .ref (ad 0 0)), (1, .ref (q 0)), (2, .ref (q 1)), (3, .ref (q 2)), (4, .ref (q 3)), (6, .int (nI v)), (13, .int (nI e)), (14, .int (nI (its σ e)))]) hx hb dL_acts_974 hl (by decide) rfl (fun ls hl => ?_)
              refine lv_iload hx hb dL_acts_976 (lv_at hl 3 rfl) ?_
              refine lv_if_eq (tgt := 996) hx hb dL_acts_978 (by decide) (fun h978 => ?_) (fun h978 => ?_)
              · skip
                have h978 : 1 = 0 := (z_eq0 (by omega)).mp h978
                exfalso; omega
              · skip
                have h978 : ¬ (1 = 0) := fun q => h978 ((z_eq0 (by omega)).mpr q)
                have h978 : 0 < 1 := Nat.pos_of_ne_zero h978
                have mg981 : W pr l en (zRm 7 176) st mi ar bl me cd H locs 0 0 Q (F0 mi 1008 ls [.int (nI (fD σ e))]) := by
                  refine lv_istore (lv' := [(33, .int (nI (fD σ e))), (32, .int (nI (sD σ e))), (31, .int (nI (sS σ e))), (30, .int (nI (fS σ e))), (29, .int (nI 1)), (0, .ref (ad 0 0)), (1, .ref (q 0)), (2, .ref (q 1)), (3, .ref (q 2)), (4, .ref (q 3)), (6, .int (nI v)), (13, .int (nI e)), (14, .int (nI (its σ e)))]) hx hb dL_acts_1008 hl (by decide) rfl (fun ls hl => ?_)
                  exact ac_settle2 (k1 := fS σ e) (d1 := fD σ e) (k2 := sS σ e) (d2 := sD σ e) (e := e) C0 hJ hN hen (Or.inl ⟨rfl, rfl, rfl, rfl⟩) hP hD hS (lv_sub hl [5, 6, 7, 8, 9, 11, 3, 2, 1, 0] rfl) hret
                refine lv_iload hx hb dL_acts_981 (lv_at hl 11 rfl) ?_
                refine lv_bipush (v := nI 10) hx hb dL_acts_983 (by decide) ?_
                refine lv_icmp_ge (tgt := 992) hx hb dL_acts_985 (by decide) (fun h985 => ?_) (fun h985 => ?_)
                · skip
                  have h985 : 10 ≤ (its σ e) := (nI_leI (by omega) (by omega)).mp h985
                  refine lv_iconst (v := nI 2) hx hb dL_acts_992 (by decide) ?_
                  refine lv_goto (tgt := 1008) hx hb dL_acts_993 (by decide) ?_
                  refine lv_topi (nm_r (e' := (nI (fD σ e))) (by unfold fD; rw [if_neg (fun z => by have := h10.1.mpr z; omega)]) ?_)
                  exact mg981
                · skip
                  have h985 : ¬ (10 ≤ (its σ e)) := fun q => h985 ((nI_leI (by omega) (by omega)).mpr q)
                  refine lv_iconst (v := nI 1) hx hb dL_acts_988 (by decide) ?_
                  refine lv_goto (tgt := 1008) hx hb dL_acts_989 (by decide) ?_
                  refine lv_topi (nm_r (e' := (nI (fD σ e))) (by unfold fD; rw [if_pos (h10.1.mp (by omega))]) ?_)
                  exact mg981
            refine lv_iload hx hb dL_acts_947 (lv_at hl 10 rfl) ?_
            refine lv_bipush (v := nI 10) hx hb dL_acts_949 (by decide) ?_
            refine lv_icmp_ge (tgt := 958) hx hb dL_acts_951 (by decide) (fun h951 => ?_) (fun h951 => ?_)
            · skip
              have h951 : 10 ≤ (its σ e) := (nI_leI (by omega) (by omega)).mp h951
              refine lv_iconst (v := nI 0) hx hb dL_acts_958 (by decide) ?_
              refine lv_goto (tgt := 974) hx hb dL_acts_959 (by decide) ?_
              refine lv_topi (nm_r (e' := (nI (sD σ e))) (by unfold sD; rw [if_neg (fun z => by have := h10.1.mpr z; omega)]) ?_)
              exact mg947
            · skip
              have h951 : ¬ (10 ≤ (its σ e)) := fun q => h951 ((nI_leI (by omega) (by omega)).mpr q)
              refine lv_iconst (v := nI 3) hx hb dL_acts_954 (by decide) ?_
              refine lv_goto (tgt := 974) hx hb dL_acts_955 (by decide) ?_
              refine lv_topi (nm_r (e' := (nI (sD σ e))) (by unfold sD; rw [if_pos (h10.1.mp (by omega))]) ?_)
              exact mg947
  · skip
    have h867 : ¬ (e < nE σ) := fun q => h867 ((eL_ge hO hM).mpr q)
    refine lv_aload_n hx hb dL_acts_870 rfl (lv_at hl 0 rfl) ?_
    refine lv_iconst (v := nI 0) hx hb dL_acts_871 (by decide) ?_
    refine lv_iconst (v := nI 0) hx hb dL_acts_872 (by decide) ?_
    refine zwrR (G := G) (w1 := (wL G q σ)) (wc := wX G ad σ T o n f x len) (wc' := wX G ad σ T o n f x len) (va_runV (As := [.int (nI 0), .int (nI 0)]) (rest := []) ⟨hx, hb, hml, hown, hts⟩ (kX4_settle_inv l G ad σ T o n f x len (nI 0) (nI 0) (hO) (by omega) (by omega) (fun z => absurd ((nI_ltI (by omega) (by omega)).mp z.2) (by omega)) (zD_any (zD_r hD))) (cwV 2 hts gL_acts_X4_settle rfl rfl rfl (by decide +kernel) ⟨Nat.le_of_ble_eq_true rfl, Nat.le_of_ble_eq_true rfl⟩) (zPreV hG (va_recv (q0 := 0) (ci := 4) hG.1 (zP_r hP) rfl rfl) (zP_r hP)) rfl rfl hl.1 rfl (lv_room (Nat.le_of_ble_eq_true rfl)) dL_acts_873 ⟨Nat.le_of_ble_eq_true rfl, Nat.le_of_ble_eq_true rfl⟩) hP hD hS (wX_map ..) (fun H locs hP hD hS => ?_)
    refine lv_iconst (v := (-1)) hx hb dL_acts_876 (by decide) ?_
    refine lv_icmp_ne (tgt := 884) hx hb dL_acts_877 (by decide) (fun h877 => ?_) (fun h877 => ?_)
    · skip
      exact absurd rfl h877
    · skip
      refine lv_iconst (v := nI 1) hx hb dL_acts_880 (by decide) ?_
      refine lv_goto (tgt := 885) hx hb dL_acts_881 (by decide) ?_
      exact hret _ _ _ _ _ _ _ _ _ dL_acts_885 hS (⟨hO.up hN, hC, ho, hn, hM⟩) hP
