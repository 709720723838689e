set_option maxHeartbeats 8000000 in
set_option maxRecDepth 100000 in
theorem kL_acts (l : Launch) (G : zG) (q : Nat → Nat) (ad : Nat → Nat → Nat) (σ : Nat → Nat) (T : Nat → Nat → Nat) (o n : Nat) (f : Nat → Int32) (x : Nat → Nat) (len : Nat) {N : Nat} (z : Int32) (hJ : Jv N σ o n) (hN : N + 1 < 100000) (hd : va_D (fun _ => True) ((wL G q σ) ++ wX G ad σ T o n f x len)) : Met l yL_acts wsL_acts (zRm 7 176) (zPc G [.ref (ad 0 0), .ref (q 0), .ref (q 1), .ref (q 2), .ref (q 3), .int z] (va_P G.1 vwCl ((wL G q σ) ++ wX G ad σ T o n f x len))) (zQ (zA ((wL G q σ) ++ wX G ad σ T o n f x len)) (some (.int (nI 1))) (fun H => ∃ (σ' : Nat → Nat) (T' : Nat → Nat → Nat) (o' n' : Nat) (f' : Nat → Int32), Jv (N + 1) σ' o' n' ∧ va_P G.1 vwCl (wL G q σ' ++ wX G ad σ' T' o' n' f' x len) H)) 0 0 (zA ((wL G q σ) ++ wX G ad σ T o n f x len)) := by
  refine zmkWz (v := True) (w := ((wL G q σ) ++ wX G ad σ T o n f x len)) hd (cc := cL_acts) (maxL := 43) (by decide) rfl (Nat.le_of_ble_eq_true rfl) ?_
  intro pr en st mi ar bl me cd ls Q hx hb hml hown hts hG hP hl hD hS hret
  have hown : st.vm.findClass RL = some mi.cls := hown
  have hl : lv_has ls 43 [(0, .ref (ad 0 0)), (1, .ref (q 0)), (2, .ref (q 1)), (3, .ref (q 2)), (4, .ref (q 3)), (5, .int z)] := hl
  have hP : va_P G.1 vwCl ((wL G q σ) ++ wX G ad σ T o n f x len) st.heap := hP
  have hD : va_D (zA ((wL G q σ) ++ wX G ad σ T o n f x len)) ((wL G q σ) ++ wX G ad σ T o n f x len) := hD
  have hc44 := hts (.constant RL 44 (10000000)) (List.mem_cons_of_mem _ (List.mem_append_left _ List.mem_cons_self))
  obtain ⟨hO, hC, ho, hn, hM⟩ := id hJ
  have hc := hO.c
  have hs := hO.lS
  have hne := hO.lE
  have hM6 := hM.s
  have hM7 := hM.e
  have hM4 := hM.r
  have hM1 := hM.1
  have hM2 := hM.2
  have C0 : AC pr st mi ar cd G := ⟨hx, hb, hml, hown, hts, hG⟩
  have hret2 : AR pr l en st mi ar bl me cd Q G q ad x len (zA ((wL G q σ) ++ wX G ad σ T o n f x len)) (N + 1) := fun pc ls H locs σ' T' o' n' f' h1 h2 h3 h4 => hret pc ls H locs _ h1 h2 ⟨σ', T', o', n', f', h3, h4⟩ (z_t trivial)
  obtain ⟨H, hH⟩ : ∃ H, H = st.heap := ⟨_, rfl⟩
  obtain ⟨locs, hlo⟩ : ∃ locs : List Loc, locs = [] := ⟨_, rfl⟩
  have hP : va_P G.1 vwCl ((wL G q σ) ++ wX G ad σ T o n f x len) H := by rw [hH]; exact hP
  have hS : va_S (zA ((wL G q σ) ++ wX G ad σ T o n f x len)) st.heap H locs := by rw [hH, hlo]; exact hS
  suffices hgo : W pr l en (zRm 7 176) st mi ar bl me cd H locs 0 0 Q (F0 mi 0 ls []) by rw [hH, hlo] at hgo; exact hgo
  clear hH hlo
  refine lv_iload hx hb dL_acts_0 (lv_at hl 5 rfl) ?_
  refine lv_iconst (v := nI 5) hx hb dL_acts_2 (by decide) ?_
  refine lv_ishr hx hb dL_acts_3 ?_
  refine lv_ldc hx hb hown hc44 dL_acts_4 ?_
  refine lv_topi (nm_r (e' := nI 10000000) rfl ?_)
  obtain ⟨v, hvv⟩ : ∃ v, v = lowN (z >>> (nI 5 &&& 31)) 10000000 := ⟨_, rfl⟩
  have hv : v < 10000000 := by rw [hvv]; exact Nat.mod_lt _ (by omega)
  refine zrdS (As := [.int (z >>> ((nI 5) &&& 31)), .int (nI 10000000)]) ⟨hx, hb, hml, hown, hts⟩ (kL_low l G  (z >>> ((nI 5) &&& 31)) 10000000 (by omega) (by omega)) (va_cwS 2 hts gL_acts_L_low rfl rfl rfl (by decide +kernel) ⟨Nat.le_of_ble_eq_true rfl, Nat.le_of_ble_eq_true rfl⟩) hG (trivial) rfl rfl hl.1 dL_acts_6 (Nat.le_of_ble_eq_true rfl) ⟨Nat.le_of_ble_eq_true rfl, Nat.le_of_ble_eq_true rfl⟩ ?_
  refine lv_topi (nm_r (e' := (nI v)) (by rw [hvv]) ?_)
  refine lv_istore (lv' := [(6, .int (nI v)), (0, .ref (ad 0 0)), (1, .ref (q 0)), (2, .ref (q 1)), (3, .ref (q 2)), (4, .ref (q 3)), (5, .int z)]) hx hb dL_acts_9 hl (by decide) rfl (fun ls hl => ?_)
  refine lv_aload_n hx hb dL_acts_11 rfl (lv_at hl 2 rfl) ?_
  refine lv_iconst (v := nI 0) hx hb dL_acts_12 (by decide) ?_
  refine va_iald hx hb hG.1 hP 0 0 rfl rfl (vp_in_nI (n := 0) (N := 5) (by omega) (by omega)) dL_acts_13 ?_
  refine lv_topi (nm_r (e' := nI (σ 0)) (by rw [nI_clamp (by omega)]; exact if_neg (by omega)) ?_)
  refine lv_aload_n hx hb dL_acts_14 rfl (lv_at hl 2 rfl) ?_
  refine lv_iconst (v := nI 1) hx hb dL_acts_15 (by decide) ?_
  refine va_iald hx hb hG.1 hP 0 0 rfl rfl (vp_in_nI (n := 1) (N := 5) (by omega) (by omega)) dL_acts_16 ?_
  refine lv_topi (nm_r (e' := nI (σ 1)) (by rw [nI_clamp (by omega)]; exact if_neg (by omega)) ?_)
  refine lv_imul hx hb dL_acts_17 ?_
  refine lv_topi (nm_r (e' := nI ((σ 0) * (σ 1))) (pk_mul _ _) ?_)
  refine lv_topi (nm_r (e' := (nI (nS σ))) (rfl) ?_)
  refine lv_istore (lv' := [(7, .int (nI (nS σ))), (6, .int (nI v)), (0, .ref (ad 0 0)), (1, .ref (q 0)), (2, .ref (q 1)), (3, .ref (q 2)), (4, .ref (q 3)), (5, .int z)]) hx hb dL_acts_18 hl (by decide) rfl (fun ls hl => ?_)
  refine lv_iload hx hb dL_acts_20 (lv_at hl 1 rfl) ?_
  refine lv_iload hx hb dL_acts_22 (lv_at hl 0 rfl) ?_
  obtain ⟨k, hkk⟩ : ∃ k, k = v % nS σ := ⟨_, rfl⟩
  have hk : k < nS σ := by rw [hkk]; exact Nat.mod_lt _ (by omega)
  refine lv_irem hx hb dL_acts_24 (nI_ne0 (by omega) (by omega)) ?_
  refine lv_topi (nm_r (e' := nI (v % (nS σ))) (pk_rem (by omega) (by omega) (by omega)) ?_)
  refine lv_topi (nm_r (e' := (nI k)) (by rw [hkk]) ?_)
  refine lv_istore (lv' := [(8, .int (nI k)), (7, .int (nI (nS σ))), (6, .int (nI v)), (0, .ref (ad 0 0)), (1, .ref (q 0)), (2, .ref (q 1)), (3, .ref (q 2)), (4, .ref (q 3)), (5, .int z)]) hx hb dL_acts_25 hl (by decide) rfl (fun ls hl => ?_)
  refine lv_iload hx hb dL_acts_27 (lv_at hl 2 rfl) ?_
  refine lv_bipush (v := nI 6) hx hb dL_acts_29 (by decide) ?_
  refine lv_idiv hx hb dL_acts_31 (nI_ne0 (by omega) (by omega)) ?_
  refine lv_topi (nm_r (e' := nI (v / 6)) (pk_div (by omega) (by omega) (by omega)) ?_)
  refine lv_iconst (v := nI 4) hx hb dL_acts_32 (by decide) ?_
  obtain ⟨d, hdd⟩ : ∃ d, d = v / 6 % 4 := ⟨_, rfl⟩
  have hd4 : d < 4 := by omega
  refine lv_irem hx hb dL_acts_33 (nI_ne0 (by omega) (by omega)) ?_
  refine lv_topi (nm_r (e' := nI ((v / 6) % 4)) (pk_rem (by omega) (by omega) (by omega)) ?_)
  refine lv_topi (nm_r (e' := (nI d)) (by rw [hdd]) ?_)
  refine lv_istore (lv' := [(9, .int (nI d)), (8, .int (nI k)), (7, .int (nI (nS σ))), (6, .int (nI v)), (0, .ref (ad 0 0)), (1, .ref (q 0)), (2, .ref (q 1)), (3, .ref (q 2)), (4, .ref (q 3)), (5, .int z)]) hx hb dL_acts_34 hl (by decide) rfl (fun ls hl => ?_)
  refine lv_iload hx hb dL_acts_36 (lv_at hl 3 rfl) ?_
  refine lv_bipush (v := nI 24) hx hb dL_acts_38 (by decide) ?_
  refine lv_idiv hx hb dL_acts_40 (nI_ne0 (by omega) (by omega)) ?_
  refine lv_topi (nm_r (e' := nI (v / 24)) (pk_div (by omega) (by omega) (by omega)) ?_)
  refine lv_bipush (v := nI 10) hx hb dL_acts_41 (by decide) ?_
  obtain ⟨p, hpp⟩ : ∃ p, p = v / 24 % 10 := ⟨_, rfl⟩
  have hp : p < 10 := by omega
  refine lv_irem hx hb dL_acts_43 (nI_ne0 (by omega) (by omega)) ?_
  refine lv_topi (nm_r (e' := nI ((v / 24) % 10)) (pk_rem (by omega) (by omega) (by omega)) ?_)
  refine lv_topi (nm_r (e' := (nI p)) (by rw [hpp]) ?_)
  refine lv_istore (lv' := [(10, .int (nI p)), (9, .int (nI d)), (8, .int (nI k)), (7, .int (nI (nS σ))), (6, .int (nI v)), (0, .ref (ad 0 0)), (1, .ref (q 0)), (2, .ref (q 1)), (3, .ref (q 2)), (4, .ref (q 3)), (5, .int z)]) hx hb dL_acts_44 hl (by decide) rfl (fun ls hl => ?_)
  refine lv_iconst (v := nI 4) hx hb dL_acts_46 (by decide) ?_
  refine lv_iload hx hb dL_acts_47 (lv_at hl 2 rfl) ?_
  refine lv_imul hx hb dL_acts_49 ?_
  refine lv_topi (nm_r (e' := nI (4 * k)) (pk_mul _ _) ?_)
  refine lv_iload hx hb dL_acts_50 (lv_at hl 1 rfl) ?_
  refine lv_iadd hx hb dL_acts_52 ?_
  refine lv_topi (nm_r (e' := nI ((4 * k) + d)) (nI_add _ _) ?_)
  refine lv_istore (lv' := [(11, .int (nI ((4 * k) + d))), (10, .int (nI p)), (9, .int (nI d)), (8, .int (nI k)), (7, .int (nI (nS σ))), (6, .int (nI v)), (0, .ref (ad 0 0)), (1, .ref (q 0)), (2, .ref (q 1)), (3, .ref (q 2)), (4, .ref (q 3)), (5, .int z)]) hx hb dL_acts_53 hl (by decide) rfl (fun ls hl => ?_)
  refine lv_iconst (v := nI 0) hx hb dL_acts_55 (by decide) ?_
  refine lv_istore (lv' := [(12, .int (nI 0)), (11, .int (nI ((4 * k) + d))), (10, .int (nI p)), (9, .int (nI d)), (8, .int (nI k)), (7, .int (nI (nS σ))), (6, .int (nI v)), (0, .ref (ad 0 0)), (1, .ref (q 0)), (2, .ref (q 1)), (3, .ref (q 2)), (4, .ref (q 3)), (5, .int z)]) hx hb dL_acts_56 hl (by decide) rfl (fun ls hl => ?_)
  have loop58 : ∀ (m : Nat) (ec : Nat) (hec : ec ≤ nE σ) (hm : nE σ < ec + m) (ls : Array Slot) (hl : lv_has ls 43 [(0, .ref (ad 0 0)), (1, .ref (q 0)), (2, .ref (q 1)), (3, .ref (q 2)), (4, .ref (q 3)), (5, .int z), (6, .int (nI v)), (7, .int (nI (nS σ))), (8, .int (nI k)), (9, .int (nI d)), (10, .int (nI p)), (11, .int (nI (4 * k + d))), (12, .int (nI ec))]) (H : Heap) (locs : List Loc) (hP : va_P G.1 vwCl ((wL G q σ) ++ wX G ad σ T o n f x len) H) (hD : va_D (zA ((wL G q σ) ++ wX G ad σ T o n f x len)) ((wL G q σ) ++ wX G ad σ T o n f x len)) (hS : va_S (zA ((wL G q σ) ++ wX G ad σ T o n f x len)) st.heap H locs), W pr l en (zRm 7 176) st mi ar bl me cd H locs 0 0 Q (F0 mi 58 ls []) := by
    intro m
    induction m with
    | zero => intro ec hec hm ls hl H locs hP hD hS; exfalso; omega
    | succ m ih58 =>
      intro ec hec hm ls hl H locs hP hD hS
      refine lv_aload_n hx hb dL_acts_58 rfl (lv_at hl 1 rfl) ?_
      refine lv_iload hx hb dL_acts_59 (lv_at hl 12 rfl) ?_
      refine zrdS (As := [.ref (q 0), .int (nI ec)]) ⟨hx, hb, hml, hown, hts⟩ (kL_edge l G q σ ec (hO) (hM) (by omega)) (va_cwS 2 hts gL_acts_L_edge rfl rfl rfl (by decide +kernel) ⟨Nat.le_of_ble_eq_true rfl, Nat.le_of_ble_eq_true rfl⟩) hG (zP_l hP) rfl rfl hl.1 dL_acts_61 (Nat.le_of_ble_eq_true rfl) ⟨Nat.le_of_ble_eq_true rfl, Nat.le_of_ble_eq_true rfl⟩ ?_
      refine lv_if_lt (tgt := 73) hx hb dL_acts_64 (by decide) (fun h64 => ?_) (fun h64 => ?_)
      · skip
        have h64 : nE σ ≤ ec := (eL_lt hO hM).mp h64
        have hee : ec = nE σ := by omega
        rw [hee] at hl
        obtain ⟨e, hev⟩ : ∃ e, e = (if nE σ = 0 then 0 else v / 5 % nE σ) := ⟨_, rfl⟩
        have hes : e < nE σ ∨ (nE σ = 0 ∧ e = 0) := by
          rw [hev]
          by_cases y : nE σ = 0
          · exact Or.inr ⟨y, if_pos y⟩
          · exact Or.inl (by rw [if_neg y]; exact Nat.mod_lt _ (by omega))
        have mg73 : W pr l en (zRm 7 176) st mi ar bl me cd H locs 0 0 Q (F0 mi 89 ls [.int (nI e)]) := by
          refine lv_istore (lv' := [(13, .int (nI e)), (0, .ref (ad 0 0)), (1, .ref (q 0)), (2, .ref (q 1)), (3, .ref (q 2)), (4, .ref (q 3)), (5, .int z), (6, .int (nI v)), (7, .int (nI (nS σ))), (8, .int (nI k)), (9, .int (nI d)), (10, .int (nI p)), (11, .int (nI (4 * k + d))), (12, .int (nI (nE σ)))]) hx hb dL_acts_89 hl (by decide) rfl (fun ls hl => ?_)
          refine lv_aload_n hx hb dL_acts_91 rfl (lv_at hl 2 rfl) ?_
          refine lv_iload hx hb dL_acts_92 (lv_at hl 0 rfl) ?_
          refine zrdS (As := [.ref (q 0), .int (nI e)]) ⟨hx, hb, hml, hown, hts⟩ (kL_edge l G q σ e (hO) (hM) (by omega)) (va_cwS 2 hts gL_acts_L_edge rfl rfl rfl (by decide +kernel) ⟨Nat.le_of_ble_eq_true rfl, Nat.le_of_ble_eq_true rfl⟩) hG (zP_l hP) rfl rfl hl.1 dL_acts_94 (Nat.le_of_ble_eq_true rfl) ⟨Nat.le_of_ble_eq_true rfl, Nat.le_of_ble_eq_true rfl⟩ ?_
          refine lv_istore (lv' := [(14, .int (eL σ e)), (13, .int (nI e)), (0, .ref (ad 0 0)), (1, .ref (q 0)), (2, .ref (q 1)), (3, .ref (q 2)), (4, .ref (q 3)), (5, .int z), (6, .int (nI v)), (7, .int (nI (nS σ))), (8, .int (nI k)), (9, .int (nI d)), (10, .int (nI p)), (11, .int (nI (4 * k + d))), (12, .int (nI (nE σ)))]) hx hb dL_acts_97 hl (by decide) rfl (fun ls hl => ?_)
          refine lv_iload hx hb dL_acts_99 (lv_at hl 7 rfl) ?_
          refine lv_bipush (v := nI 24) hx hb dL_acts_101 (by decide) ?_
          obtain ⟨t, htt⟩ : ∃ t, t = lowN z 24 := ⟨_, rfl⟩
          have ht24 : t < 24 := by rw [htt]; exact Nat.mod_lt _ (by omega)
          refine zrdS (As := [.int z, .int (nI 24)]) ⟨hx, hb, hml, hown, hts⟩ (kL_low l G  z 24 (by omega) (by omega)) (va_cwS 2 hts gL_acts_L_low rfl rfl rfl (by decide +kernel) ⟨Nat.le_of_ble_eq_true rfl, Nat.le_of_ble_eq_true rfl⟩) hG (trivial) rfl rfl hl.1 dL_acts_103 (Nat.le_of_ble_eq_true rfl) ⟨Nat.le_of_ble_eq_true rfl, Nat.le_of_ble_eq_true rfl⟩ ?_
          refine lv_topi (nm_r (e' := (nI t)) (by rw [htt]) ?_)
          rcases (show t = 0 ∨ t = 1 ∨ t = 2 ∨ t = 3 ∨ t = 4 ∨ t = 5 ∨ t = 6 ∨ t = 7 ∨ t = 8 ∨ t = 9 ∨ t = 10 ∨ t = 11 ∨ t = 12 ∨ t = 13 ∨ t = 14 ∨ t = 15 ∨ t = 16 ∨ t = 17 ∨ t = 18 ∨ t = 19 ∨ t = 20 ∨ 20 < t by omega) with hw106 | hw106 | hw106 | hw106 | hw106 | hw106 | hw106 | hw106 | hw106 | hw106 | hw106 | hw106 | hw106 | hw106 | hw106 | hw106 | hw106 | hw106 | hw106 | hw106 | hw106 | hw106
          · refine lv_tableIn (off := 98) (tgt := 204) hx hb dL_acts_106 (by rw [hw106]; decide) (by rw [hw106]; decide) (by rw [hw106]; decide) (by decide) ?_
            exact ac_grid (T := T) (f := f) (x := x) (len := len) C0 hJ hN hv hP hD hS (lv_sub hl [2, 3, 4, 5, 6, 8] rfl) hret2
          · refine lv_tableIn (off := 187) (tgt := 293) hx hb dL_acts_106 (by rw [hw106]; decide) (by rw [hw106]; decide) (by rw [hw106]; decide) (by decide) ?_
            exact ac_set (T := T) (f := f) (x := x) (len := len) C0 hJ hN hv hP hD hS (lv_sub hl [2, 3, 4, 5, 6, 8] rfl) hret2
          · refine lv_tableIn (off := 252) (tgt := 358) hx hb dL_acts_106 (by rw [hw106]; decide) (by rw [hw106]; decide) (by rw [hw106]; decide) (by decide) ?_
            exact ac_show (T := T) (f := f) (x := x) (len := len) C0 hJ hN hv hk hd4 hp hP hD hS (lv_sub hl [2, 3, 4, 5, 6, 8, 10, 11, 12, 13] rfl) hret2
          · refine lv_tableIn (off := 252) (tgt := 358) hx hb dL_acts_106 (by rw [hw106]; decide) (by rw [hw106]; decide) (by rw [hw106]; decide) (by decide) ?_
            exact ac_show (T := T) (f := f) (x := x) (len := len) C0 hJ hN hv hk hd4 hp hP hD hS (lv_sub hl [2, 3, 4, 5, 6, 8, 10, 11, 12, 13] rfl) hret2
          · refine lv_tableIn (off := 252) (tgt := 358) hx hb dL_acts_106 (by rw [hw106]; decide) (by rw [hw106]; decide) (by rw [hw106]; decide) (by decide) ?_
            exact ac_show (T := T) (f := f) (x := x) (len := len) C0 hJ hN hv hk hd4 hp hP hD hS (lv_sub hl [2, 3, 4, 5, 6, 8, 10, 11, 12, 13] rfl) hret2
          · refine lv_tableIn (off := 252) (tgt := 358) hx hb dL_acts_106 (by rw [hw106]; decide) (by rw [hw106]; decide) (by rw [hw106]; decide) (by decide) ?_
            exact ac_show (T := T) (f := f) (x := x) (len := len) C0 hJ hN hv hk hd4 hp hP hD hS (lv_sub hl [2, 3, 4, 5, 6, 8, 10, 11, 12, 13] rfl) hret2
          · refine lv_tableIn (off := 252) (tgt := 358) hx hb dL_acts_106 (by rw [hw106]; decide) (by rw [hw106]; decide) (by rw [hw106]; decide) (by decide) ?_
            exact ac_show (T := T) (f := f) (x := x) (len := len) C0 hJ hN hv hk hd4 hp hP hD hS (lv_sub hl [2, 3, 4, 5, 6, 8, 10, 11, 12, 13] rfl) hret2
          · refine lv_tableIn (off := 252) (tgt := 358) hx hb dL_acts_106 (by rw [hw106]; decide) (by rw [hw106]; decide) (by rw [hw106]; decide) (by decide) ?_
            exact ac_show (T := T) (f := f) (x := x) (len := len) C0 hJ hN hv hk hd4 hp hP hD hS (lv_sub hl [2, 3, 4, 5, 6, 8, 10, 11, 12, 13] rfl) hret2
          · refine lv_tableIn (off := 358) (tgt := 464) hx hb dL_acts_106 (by rw [hw106]; decide) (by rw [hw106]; decide) (by rw [hw106]; decide) (by decide) ?_
            exact ac_erase (T := T) (f := f) (x := x) (len := len) C0 hJ hN hv hk hd4 hp hP hD hS (lv_sub hl [2, 3, 4, 5, 6, 8, 10, 11, 12, 13] rfl) hret2
          · refine lv_tableIn (off := 358) (tgt := 464) hx hb dL_acts_106 (by rw [hw106]; decide) (by rw [hw106]; decide) (by rw [hw106]; decide) (by decide) ?_
            exact ac_erase (T := T) (f := f) (x := x) (len := len) C0 hJ hN hv hk hd4 hp hP hD hS (lv_sub hl [2, 3, 4, 5, 6, 8, 10, 11, 12, 13] rfl) hret2
          · refine lv_tableIn (off := 468) (tgt := 574) hx hb dL_acts_106 (by rw [hw106]; decide) (by rw [hw106]; decide) (by rw [hw106]; decide) (by decide) ?_
            exact ac_mean (T := T) (f := f) (x := x) (len := len) C0 hJ hN hv hk hP hD hS (lv_sub hl [2, 3, 4, 5, 6, 8, 10] rfl) hret2
          · refine lv_tableIn (off := 468) (tgt := 574) hx hb dL_acts_106 (by rw [hw106]; decide) (by rw [hw106]; decide) (by rw [hw106]; decide) (by decide) ?_
            exact ac_mean (T := T) (f := f) (x := x) (len := len) C0 hJ hN hv hk hP hD hS (lv_sub hl [2, 3, 4, 5, 6, 8, 10] rfl) hret2
          · refine lv_tableIn (off := 571) (tgt := 677) hx hb dL_acts_106 (by rw [hw106]; decide) (by rw [hw106]; decide) (by rw [hw106]; decide) (by decide) ?_
            exact ac_agree (T := T) (f := f) (x := x) (len := len) C0 hJ hN hes hP hD hS (lv_sub hl [2, 3, 4, 5, 6, 1, 0] rfl) hret2
          · refine lv_tableIn (off := 571) (tgt := 677) hx hb dL_acts_106 (by rw [hw106]; decide) (by rw [hw106]; decide) (by rw [hw106]; decide) (by decide) ?_
            exact ac_agree (T := T) (f := f) (x := x) (len := len) C0 hJ hN hes hP hD hS (lv_sub hl [2, 3, 4, 5, 6, 1, 0] rfl) hret2
          · refine lv_tableIn (off := 571) (tgt := 677) hx hb dL_acts_106 (by rw [hw106]; decide) (by rw [hw106]; decide) (by rw [hw106]; decide) (by decide) ?_
            exact ac_agree (T := T) (f := f) (x := x) (len := len) C0 hJ hN hes hP hD hS (lv_sub hl [2, 3, 4, 5, 6, 1, 0] rfl) hret2
          · refine lv_tableIn (off := 571) (tgt := 677) hx hb dL_acts_106 (by rw [hw106]; decide) (by rw [hw106]; decide) (by rw [hw106]; decide) (by decide) ?_
            exact ac_agree (T := T) (f := f) (x := x) (len := len) C0 hJ hN hes hP hD hS (lv_sub hl [2, 3, 4, 5, 6, 1, 0] rfl) hret2
          · refine lv_tableIn (off := 651) (tgt := 757) hx hb dL_acts_106 (by rw [hw106]; decide) (by rw [hw106]; decide) (by rw [hw106]; decide) (by decide) ?_
            exact ac_release (T := T) (f := f) (x := x) (len := len) C0 hJ hN hv hes hP hD hS (lv_sub hl [2, 3, 4, 5, 6, 8, 14, 1, 0] rfl) hret2
          · refine lv_tableIn (off := 759) (tgt := 865) hx hb dL_acts_106 (by rw [hw106]; decide) (by rw [hw106]; decide) (by rw [hw106]; decide) (by decide) ?_
            exact ac_settle (T := T) (f := f) (x := x) (len := len) C0 hJ hN hv hes hP hD hS (lv_sub hl [2, 3, 4, 5, 6, 8, 1, 0] rfl) hret2
          · refine lv_tableIn (off := 759) (tgt := 865) hx hb dL_acts_106 (by rw [hw106]; decide) (by rw [hw106]; decide) (by rw [hw106]; decide) (by decide) ?_
            exact ac_settle (T := T) (f := f) (x := x) (len := len) C0 hJ hN hv hes hP hD hS (lv_sub hl [2, 3, 4, 5, 6, 8, 1, 0] rfl) hret2
          · refine lv_tableIn (off := 759) (tgt := 865) hx hb dL_acts_106 (by rw [hw106]; decide) (by rw [hw106]; decide) (by rw [hw106]; decide) (by decide) ?_
            exact ac_settle (T := T) (f := f) (x := x) (len := len) C0 hJ hN hv hes hP hD hS (lv_sub hl [2, 3, 4, 5, 6, 8, 1, 0] rfl) hret2
          · refine lv_tableIn (off := 1187) (tgt := 1293) hx hb dL_acts_106 (by rw [hw106]; decide) (by rw [hw106]; decide) (by rw [hw106]; decide) (by decide) ?_
            exact ac_publish (T := T) (f := f) (x := x) (len := len) C0 hJ hN hk hP hD hS (lv_sub hl [2, 3, 4, 5, 6, 10] rfl) hret2
          · refine lv_tableOut (tgt := 1405) hx hb dL_acts_106 (Or.inr (by rw [nI_toInt (by omega)]; omega)) (by decide) ?_
            exact ac_scale (T := T) (f := f) (x := x) (len := len) C0 hJ hN hv hk hP hD hS (lv_sub hl [2, 3, 4, 5, 6, 8, 10] rfl) hret2
        refine lv_iload hx hb dL_acts_73 (lv_at hl 12 rfl) ?_
        refine lv_if_ne (tgt := 82) hx hb dL_acts_75 (by decide) (fun h75 => ?_) (fun h75 => ?_)
        · skip
          have h75 : ¬ ((nE σ) = 0) := fun q => h75 ((z_eq0 (by omega)).mpr q)
          have h75 : 0 < (nE σ) := Nat.pos_of_ne_zero h75
          refine lv_iload hx hb dL_acts_82 (lv_at hl 6 rfl) ?_
          refine lv_iconst (v := nI 5) hx hb dL_acts_84 (by decide) ?_
          refine lv_idiv hx hb dL_acts_85 (nI_ne0 (by omega) (by omega)) ?_
          refine lv_topi (nm_r (e' := nI (v / 5)) (pk_div (by omega) (by omega) (by omega)) ?_)
          refine lv_iload hx hb dL_acts_86 (lv_at hl 12 rfl) ?_
          refine lv_irem hx hb dL_acts_88 (nI_ne0 (by omega) (by omega)) ?_
          refine lv_topi (nm_r (e' := nI ((v / 5) % (nE σ))) (pk_rem (by omega) (by omega) (by omega)) ?_)
          refine lv_topi (nm_r (e' := (nI e)) (by rw [hev, if_neg (by omega)]) ?_)
          exact mg73
        · skip
          have h75 : (nE σ) = 0 := (z_eq0 (by omega)).mp h75
          refine lv_iconst (v := nI 0) hx hb dL_acts_78 (by decide) ?_
          refine lv_goto (tgt := 89) hx hb dL_acts_79 (by decide) ?_
          refine lv_topi (nm_r (e' := (nI e)) (by rw [hev, if_pos (by omega)]) ?_)
          exact mg73
      · skip
        have h64 : ¬ (nE σ ≤ ec) := fun q => h64 ((eL_lt hO hM).mpr q)
        refine lv_iinc (v := nI (ec + 1)) (lv' := [(12, .int (nI (ec + 1))), (0, .ref (ad 0 0)), (1, .ref (q 0)), (2, .ref (q 1)), (3, .ref (q 2)), (4, .ref (q 3)), (5, .int z), (6, .int (nI v)), (7, .int (nI (nS σ))), (8, .int (nI k)), (9, .int (nI d)), (10, .int (nI p)), (11, .int (nI (4 * k + d)))]) hx hb dL_acts_67 hl (k := 12) rfl (zinc1 _) (by decide) rfl (fun ls hl => ?_)
        refine lv_goto (tgt := 58) hx hb dL_acts_70 (by decide) ?_
        exact ih58 (ec + 1) (by omega) (by omega) _ (lv_sub hl [1, 2, 3, 4, 5, 6, 7, 8, 9, 10, 11, 12, 0] rfl) _ _ hP hD hS
  exact loop58 (nE σ + 1) 0 (by omega) (by omega) _ (lv_sub hl [7, 8, 9, 10, 11, 12, 6, 5, 4, 3, 2, 1, 0] rfl) _ _ hP hD hS
