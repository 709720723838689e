set_option maxHeartbeats 4000000 in
set_option maxRecDepth 100000 in
theorem kX0_settleFrom_f (l : Launch) (G : zG) (a : Nat → Nat) (σ : Nat → Nat) {N : Nat} (d1 k2 d2 : Nat) (e : Nat) (k1 : Nat) (hO : Ok N σ) (he : e < nE σ) (h1 : k1 = fS σ e) (hd1 : d1 = fD σ e) (h2 : k2 = sS σ e) (hd2 : d2 = sD σ e) (hd : va_D (fun _ => True) (wA G a σ)) : Met l yX0_settleFrom wsX0_settleFrom (zRm 3 67) (zPc G [.ref (a 0), .int (nI e), .int (nI k1)] (va_P G.1 vwCl (wA G a σ))) (zQ (zA (wA G a σ)) (some (.int (if sbd σ k1 d1 k2 d2 < 10 then (-2) else nI (stc σ k1 d1 k2 d2 10)))) (fun H => (sbd σ k1 d1 k2 d2 < 10 → ∃ τ, va_P G.1 vwCl (wA G a τ) H) ∧ (¬ sbd σ k1 d1 k2 d2 < 10 → va_P G.1 vwCl (wA G a (stE σ k1 d1 k2 d2)) H))) 0 0 (zA (wA G a σ)) := by
  refine zmkWi (w := (wA G a σ)) hd (cc := cX0_settleFrom) (maxL := 11) (by decide) rfl (Nat.le_of_ble_eq_true rfl) ?_
  intro pr en st mi ar bl me cd ls Q hx hb hml hown hts hG hP hl hD hS hret
  have hown : st.vm.findClass RX0 = some mi.cls := hown
  have hl : lv_has ls 11 [(0, .ref (a 0)), (1, .int (nI e)), (2, .int (nI k1))] := hl
  have hP : va_P G.1 vwCl (wA G a σ) st.heap := hP
  have hD : va_D (zA (wA G a σ)) (wA G a σ) := hD
  have hc := hO.c
  have hs := hO.lS
  have hr := hO.lR
  have hne := hO.lE
  have hfs := hO.lF he
  have hda := fD_lt σ e
  have hdb := sD_lt σ e
  have hlt : fS σ e < sS σ e := by unfold sS; have := hO.c; split <;> omega
  refine lv_iload_n hx hb dX0_settleFrom_0 rfl (lv_at hl 2 rfl) ?_
  refine lv_aload_n hx hb dX0_settleFrom_1 rfl (lv_at hl 0 rfl) ?_
  refine lv_iload_n hx hb dX0_settleFrom_2 rfl (lv_at hl 1 rfl) ?_
  refine zrdV (As := [.int (nI e)]) ⟨hx, hb, hml, hown, hts⟩ (kX0_firstSheet l G a σ e (hO) (by omega)) (cwV 1 hts gX0_settleFrom_X0_firstSheet rfl rfl rfl (by decide +kernel) ⟨Nat.le_of_ble_eq_true rfl, Nat.le_of_ble_eq_true rfl⟩) hG (va_recv (q0 := 0) (ci := 0) hG.1 hP rfl rfl) (hP) rfl rfl hl.1 dX0_settleFrom_3 (Nat.le_of_ble_eq_true rfl) ⟨Nat.le_of_ble_eq_true rfl, Nat.le_of_ble_eq_true rfl⟩ ?_
  have hf3_0 := hO.lF (show e < nE σ by omega)
  refine lv_icmp_ne (tgt := 13) hx hb dX0_settleFrom_6 (by decide) (fun h6 => ?_) (fun h6 => ?_)
  · skip
    have h6 : ¬ (k1 = (fS σ e)) := fun q => h6 ((nI_eq (by omega) (by omega)).mpr q)
    exfalso; omega
  · skip
    have h6 : k1 = (fS σ e) := (nI_eq (by omega) (by omega)).mp h6
    refine lv_iconst (v := nI 1) hx hb dX0_settleFrom_9 (by decide) ?_
    refine lv_goto (tgt := 14) hx hb dX0_settleFrom_10 (by decide) ?_
    refine lv_istore_n (lv' := [(3, .int (nI 1)), (0, .ref (a 0)), (1, .int (nI e)), (2, .int (nI k1))]) hx hb dX0_settleFrom_14 rfl hl (by decide) rfl (fun ls hl => ?_)
    refine lv_iload_n hx hb dX0_settleFrom_15 rfl (lv_at hl 0 rfl) ?_
    refine lv_if_eq (tgt := 27) hx hb dX0_settleFrom_16 (by decide) (fun h16 => ?_) (fun h16 => ?_)
    · skip
      have h16 : 1 = 0 := (z_eq0 (by omega)).mp h16
      exfalso; omega
    · skip
      have h16 : ¬ (1 = 0) := fun q => h16 ((z_eq0 (by omega)).mpr q)
      have h16 : 0 < 1 := Nat.pos_of_ne_zero h16
      refine lv_aload_n hx hb dX0_settleFrom_19 rfl (lv_at hl 1 rfl) ?_
      refine lv_iload_n hx hb dX0_settleFrom_20 rfl (lv_at hl 2 rfl) ?_
      refine zrdV (As := [.int (nI e)]) ⟨hx, hb, hml, hown, hts⟩ (kX0_firstSide l G a σ e (hO) (by omega)) (cwV 1 hts gX0_settleFrom_X0_firstSide rfl rfl rfl (by decide +kernel) ⟨Nat.le_of_ble_eq_true rfl, Nat.le_of_ble_eq_true rfl⟩) hG (va_recv (q0 := 0) (ci := 0) hG.1 hP rfl rfl) (hP) rfl rfl hl.1 dX0_settleFrom_21 (Nat.le_of_ble_eq_true rfl) ⟨Nat.le_of_ble_eq_true rfl, Nat.le_of_ble_eq_true rfl⟩ ?_
      refine lv_topi (nm_r (e' := nI d1) (by rw [hd1]) ?_)
      refine lv_goto (tgt := 32) hx hb dX0_settleFrom_24 (by decide) ?_
      refine lv_istore (lv' := [(4, .int (nI d1)), (3, .int (nI 1)), (0, .ref (a 0)), (1, .int (nI e)), (2, .int (nI k1))]) hx hb dX0_settleFrom_32 hl (by decide) rfl (fun ls hl => ?_)
      refine lv_iload_n hx hb dX0_settleFrom_34 rfl (lv_at hl 1 rfl) ?_
      refine lv_if_eq (tgt := 46) hx hb dX0_settleFrom_35 (by decide) (fun h35 => ?_) (fun h35 => ?_)
      · skip
        have h35 : 1 = 0 := (z_eq0 (by omega)).mp h35
        exfalso; omega
      · skip
        have h35 : ¬ (1 = 0) := fun q => h35 ((z_eq0 (by omega)).mpr q)
        have h35 : 0 < 1 := Nat.pos_of_ne_zero h35
        refine lv_aload_n hx hb dX0_settleFrom_38 rfl (lv_at hl 2 rfl) ?_
        refine lv_iload_n hx hb dX0_settleFrom_39 rfl (lv_at hl 3 rfl) ?_
        refine zrdV (As := [.int (nI e)]) ⟨hx, hb, hml, hown, hts⟩ (kX0_secondSheet l G a σ e (hO) (by omega)) (cwV 1 hts gX0_settleFrom_X0_secondSheet rfl rfl rfl (by decide +kernel) ⟨Nat.le_of_ble_eq_true rfl, Nat.le_of_ble_eq_true rfl⟩) hG (va_recv (q0 := 0) (ci := 0) hG.1 hP rfl rfl) (hP) rfl rfl hl.1 dX0_settleFrom_40 (Nat.le_of_ble_eq_true rfl) ⟨Nat.le_of_ble_eq_true rfl, Nat.le_of_ble_eq_true rfl⟩ ?_
        have hf40_0 := hO.lF (show e < nE σ by omega)
        refine lv_topi (nm_r (e' := nI k2) (by rw [h2]) ?_)
        refine lv_goto (tgt := 51) hx hb dX0_settleFrom_43 (by decide) ?_
        refine lv_istore (lv' := [(5, .int (nI k2)), (4, .int (nI d1)), (3, .int (nI 1)), (0, .ref (a 0)), (1, .int (nI e)), (2, .int (nI k1))]) hx hb dX0_settleFrom_51 hl (by decide) rfl (fun ls hl => ?_)
        refine lv_iload_n hx hb dX0_settleFrom_53 rfl (lv_at hl 2 rfl) ?_
        refine lv_if_eq (tgt := 65) hx hb dX0_settleFrom_54 (by decide) (fun h54 => ?_) (fun h54 => ?_)
        · skip
          have h54 : 1 = 0 := (z_eq0 (by omega)).mp h54
          exfalso; omega
        · skip
          have h54 : ¬ (1 = 0) := fun q => h54 ((z_eq0 (by omega)).mpr q)
          have h54 : 0 < 1 := Nat.pos_of_ne_zero h54
          refine lv_aload_n hx hb dX0_settleFrom_57 rfl (lv_at hl 3 rfl) ?_
          refine lv_iload_n hx hb dX0_settleFrom_58 rfl (lv_at hl 4 rfl) ?_
          refine zrdV (As := [.int (nI e)]) ⟨hx, hb, hml, hown, hts⟩ (kX0_secondSide l G a σ e (hO) (by omega)) (cwV 1 hts gX0_settleFrom_X0_secondSide rfl rfl rfl (by decide +kernel) ⟨Nat.le_of_ble_eq_true rfl, Nat.le_of_ble_eq_true rfl⟩) hG (va_recv (q0 := 0) (ci := 0) hG.1 hP rfl rfl) (hP) rfl rfl hl.1 dX0_settleFrom_59 (Nat.le_of_ble_eq_true rfl) ⟨Nat.le_of_ble_eq_true rfl, Nat.le_of_ble_eq_true rfl⟩ ?_
          refine lv_topi (nm_r (e' := nI d2) (by rw [hd2]) ?_)
          refine lv_goto (tgt := 70) hx hb dX0_settleFrom_62 (by decide) ?_
          refine lv_istore (lv' := [(6, .int (nI d2)), (5, .int (nI k2)), (4, .int (nI d1)), (3, .int (nI 1)), (0, .ref (a 0)), (1, .int (nI e)), (2, .int (nI k1))]) hx hb dX0_settleFrom_70 hl (by decide) rfl (fun ls hl => ?_)
          refine lv_iconst (v := nI 0) hx hb dX0_settleFrom_72 (by decide) ?_
          refine lv_istore (lv' := [(7, .int (nI 0)), (6, .int (nI d2)), (5, .int (nI k2)), (4, .int (nI d1)), (3, .int (nI 1)), (0, .ref (a 0)), (1, .int (nI e)), (2, .int (nI k1))]) hx hb dX0_settleFrom_73 hl (by decide) rfl (fun ls hl => ?_)
          refine lv_iconst (v := nI 0) hx hb dX0_settleFrom_75 (by decide) ?_
          refine lv_istore (lv' := [(8, .int (nI 0)), (7, .int (nI 0)), (6, .int (nI d2)), (5, .int (nI k2)), (4, .int (nI d1)), (3, .int (nI 1)), (0, .ref (a 0)), (1, .int (nI e)), (2, .int (nI k1))]) hx hb dX0_settleFrom_76 hl (by decide) rfl (fun ls hl => ?_)
          have loop78 : ∀ (n : Nat) (p : Nat) (τ : Nat → Nat) (x : Nat) (hτ : τ = stl σ k1 d1 k2 d2 p) (hxc : x = stc σ k1 d1 k2 d2 p) (hz : ∀ j, j < p → sBad (stl σ k1 d1 k2 d2 j) k1 d1 k2 d2 j = false) (hOτ : Ok N τ) (hp : p ≤ 10) (hxp : x ≤ p) (hn : 10 < p + n) (ls : Array Slot) (hl : lv_has ls 11 [(0, .ref (a 0)), (1, .int (nI e)), (2, .int (nI k1)), (3, .int (nI 1)), (4, .int (nI d1)), (5, .int (nI k2)), (6, .int (nI d2)), (7, .int (nI x)), (8, .int (nI p))]) (H : Heap) (locs : List Loc) (hP : va_P G.1 vwCl (wA G a τ) H) (hD : va_D (zA (wA G a σ)) (wA G a τ)) (hS : va_S (zA (wA G a σ)) st.heap H locs), W pr l en (zRm 3 67) st mi ar bl me cd H locs 0 0 Q (F0 mi 78 ls []) := by
            intro n
            induction n with
            | zero => intro p τ x hτ hxc hz hOτ hp hxp hn ls hl H locs hP hD hS; exfalso; omega
            | succ n ih =>
              intro p τ x hτ hxc hz hOτ hp hxp hn ls hl H locs hP hD hS
              refine lv_iload hx hb dX0_settleFrom_78 (lv_at hl 8 rfl) ?_
              refine lv_bipush (v := nI 10) hx hb dX0_settleFrom_80 (by decide) ?_
              refine lv_icmp_ge (tgt := 168) hx hb dX0_settleFrom_82 (by decide) (fun h82 => ?_) (fun h82 => ?_)
              · skip
                have h82 : 10 ≤ p := (nI_leI (by omega) (by omega)).mp h82
                refine lv_iload hx hb dX0_settleFrom_168 (lv_at hl 7 rfl) ?_
                refine lv_if_le (tgt := 179) hx hb dX0_settleFrom_170 (by decide) (fun h170 => ?_) (fun h170 => ?_)
                · skip
                  have h170 : x = 0 := (z_le0 (by omega)).mp h170
                  refine lv_iload hx hb dX0_settleFrom_179 (lv_at hl 7 rfl) ?_
                  have hB : sbd σ k1 d1 k2 d2 = 10 := fst1_no (fun j hj => hz j (by omega))
                  obtain rfl : p = 10 := (by omega)
                  exact hret _ _ _ _ _ dX0_settleFrom_181 hS (⟨fun q => absurd q (by omega), fun _ => by unfold stE; rw [← hxc, if_neg (by omega), ← hτ]; exact hP⟩) (by rw [if_neg (by omega), ← hxc])
                · skip
                  have h170 : ¬ (x = 0) := fun q => h170 ((z_le0 (by omega)).mpr q)
                  have h170 : 0 < x := Nat.pos_of_ne_zero h170
                  refine lv_aload_n hx hb dX0_settleFrom_173 rfl (lv_at hl 0 rfl) ?_
                  refine lv_iload hx hb dX0_settleFrom_174 (lv_at hl 5 rfl) ?_
                  refine zwrWv (G := G) (wc := (wA G a τ)) (wc' := (wA G a (su τ (114 + 53 * k2) (rvn τ k2 + 1)))) (va_runV (As := [.int (nI k2)]) (rest := []) ⟨hx, hb, hml, hown, hts⟩ (kX0_addRevision l G a τ k2 (hOτ) (by omega) (zD_any hD)) (cwV 1 hts gX0_settleFrom_X0_addRevision rfl rfl rfl (by decide +kernel) ⟨Nat.le_of_ble_eq_true rfl, Nat.le_of_ble_eq_true rfl⟩) (zPreV hG (va_recv (q0 := 0) (ci := 0) hG.1 hP rfl rfl) (hP)) rfl rfl hl.1 rfl (lv_room (Nat.le_of_ble_eq_true rfl)) dX0_settleFrom_176 ⟨Nat.le_of_ble_eq_true rfl, Nat.le_of_ble_eq_true rfl⟩) hP hD hS rfl (fun H locs hP hD hS => ?_)
                  have hP : va_P G.1 vwCl (wA G a (su τ (114 + 53 * k2) (rvn τ k2 + 1))) H := hP
                  have hD : va_D (zA (wA G a σ)) (wA G a (su τ (114 + 53 * k2) (rvn τ k2 + 1))) := hD
                  refine lv_iload hx hb dX0_settleFrom_179 (lv_at hl 7 rfl) ?_
                  have hB : sbd σ k1 d1 k2 d2 = 10 := fst1_no (fun j hj => hz j (by omega))
                  obtain rfl : p = 10 := (by omega)
                  exact hret _ _ _ _ _ dX0_settleFrom_181 hS (⟨fun q => absurd q (by omega), fun _ => by unfold stE; rw [← hxc, if_pos h170, ← hτ]; exact hP⟩) (by rw [if_neg (by omega), ← hxc])
              · skip
                have h82 : ¬ (10 ≤ p) := fun q => h82 ((nI_leI (by omega) (by omega)).mpr q)
                refine lv_aload_n hx hb dX0_settleFrom_85 rfl (lv_at hl 0 rfl) ?_
                refine lv_iload_n hx hb dX0_settleFrom_86 rfl (lv_at hl 2 rfl) ?_
                refine lv_iload hx hb dX0_settleFrom_87 (lv_at hl 4 rfl) ?_
                refine lv_iload hx hb dX0_settleFrom_89 (lv_at hl 8 rfl) ?_
                refine zrdV (As := [.int (nI k1), .int (nI d1), .int (nI p)]) ⟨hx, hb, hml, hown, hts⟩ (kX0_meaningAt l G a τ k1 d1 p (hOτ) (by omega) (by omega) (by omega)) (cwV 3 hts gX0_settleFrom_X0_meaningAt rfl rfl rfl (by decide +kernel) ⟨Nat.le_of_ble_eq_true rfl, Nat.le_of_ble_eq_true rfl⟩) hG (va_recv (q0 := 0) (ci := 0) hG.1 hP rfl rfl) (hP) rfl rfl hl.1 dX0_settleFrom_91 (Nat.le_of_ble_eq_true rfl) ⟨Nat.le_of_ble_eq_true rfl, Nat.le_of_ble_eq_true rfl⟩ ?_
                have hf91_0 := hOτ.mn (show k1 < 36 by omega) (show d1 < 4 by omega) (show p < 10 by omega)
                refine lv_istore (lv' := [(9, .int (zc 10 (mns τ k1 d1 p))), (0, .ref (a 0)), (1, .int (nI e)), (2, .int (nI k1)), (3, .int (nI 1)), (4, .int (nI d1)), (5, .int (nI k2)), (6, .int (nI d2)), (7, .int (nI x)), (8, .int (nI p))]) hx hb dX0_settleFrom_94 hl (by decide) rfl (fun ls hl => ?_)
                refine lv_iload hx hb dX0_settleFrom_96 (lv_at hl 0 rfl) ?_
                refine lv_aload_n hx hb dX0_settleFrom_98 rfl (lv_at hl 1 rfl) ?_
                refine lv_iload hx hb dX0_settleFrom_99 (lv_at hl 6 rfl) ?_
                refine lv_iload hx hb dX0_settleFrom_101 (lv_at hl 7 rfl) ?_
                refine lv_iload hx hb dX0_settleFrom_103 (lv_at hl 9 rfl) ?_
                refine zrdV (As := [.int (nI k2), .int (nI d2), .int (nI p)]) ⟨hx, hb, hml, hown, hts⟩ (kX0_meaningAt l G a τ k2 d2 p (hOτ) (by omega) (by omega) (by omega)) (cwV 3 hts gX0_settleFrom_X0_meaningAt rfl rfl rfl (by decide +kernel) ⟨Nat.le_of_ble_eq_true rfl, Nat.le_of_ble_eq_true rfl⟩) hG (va_recv (q0 := 0) (ci := 0) hG.1 hP rfl rfl) (hP) rfl rfl hl.1 dX0_settleFrom_105 (Nat.le_of_ble_eq_true rfl) ⟨Nat.le_of_ble_eq_true rfl, Nat.le_of_ble_eq_true rfl⟩ ?_
                have hf105_0 := hOτ.mn (show k2 < 36 by omega) (show d2 < 4 by omega) (show p < 10 by omega)
                refine lv_icmp_ne (tgt := 114) hx hb dX0_settleFrom_108 (by decide) (fun h108 => ?_) (fun h108 => ?_)
                · skip
                  have h108 : ¬ (mns τ k1 d1 p = mns τ k2 d2 p) := fun q => h108 ((zc_eq (by omega) (by omega)).mpr q)
                  refine lv_iload hx hb dX0_settleFrom_114 (lv_at hl 0 rfl) ?_
                  refine lv_bipush (v := (-4)) hx hb dX0_settleFrom_116 (by decide) ?_
                  refine lv_icmp_ne (tgt := 126) hx hb dX0_settleFrom_118 (by decide) (fun h118 => ?_) (fun h118 => ?_)
                  · skip
                    have h118 : ¬ (mns τ k1 d1 p = 10) := fun q => h118 ((zc_m4 (by omega)).mpr q)
                    rw [show zc 10 (mns τ k1 d1 p) = nI (mns τ k1 d1 p) from zc_n h118] at hl
                    refine lv_aload_n hx hb dX0_settleFrom_126 rfl (lv_at hl 1 rfl) ?_
                    refine lv_iload hx hb dX0_settleFrom_127 (lv_at hl 6 rfl) ?_
                    refine lv_iload hx hb dX0_settleFrom_129 (lv_at hl 0 rfl) ?_
                    refine zrdV (As := [.int (nI k2), .int (nI (mns τ k1 d1 p))]) ⟨hx, hb, hml, hown, hts⟩ (kX0_lowestSign l G a τ k2 (mns τ k1 d1 p) (hOτ) (by omega) (by omega)) (cwV 2 hts gX0_settleFrom_X0_lowestSign rfl rfl rfl (by decide +kernel) ⟨Nat.le_of_ble_eq_true rfl, Nat.le_of_ble_eq_true rfl⟩) hG (va_recv (q0 := 0) (ci := 0) hG.1 hP rfl rfl) (hP) rfl rfl hl.1 dX0_settleFrom_131 (Nat.le_of_ble_eq_true rfl) ⟨Nat.le_of_ble_eq_true rfl, Nat.le_of_ble_eq_true rfl⟩ ?_
                    have hf131_0 := lws_le τ (k2) ((mns τ k1 d1 p))
                    refine lv_istore (lv' := [(10, .int (zc 10 (lws τ k2 (mns τ k1 d1 p)))), (9, .int (nI (mns τ k1 d1 p))), (0, .ref (a 0)), (1, .int (nI e)), (2, .int (nI k1)), (3, .int (nI 1)), (4, .int (nI d1)), (5, .int (nI k2)), (6, .int (nI d2)), (7, .int (nI x)), (8, .int (nI p))]) hx hb dX0_settleFrom_134 hl (by decide) rfl (fun ls hl => ?_)
                    refine lv_iload hx hb dX0_settleFrom_136 (lv_at hl 0 rfl) ?_
                    refine lv_bipush (v := (-4)) hx hb dX0_settleFrom_138 (by decide) ?_
                    refine lv_icmp_ne (tgt := 146) hx hb dX0_settleFrom_140 (by decide) (fun h140 => ?_) (fun h140 => ?_)
                    · skip
                      have h140 : ¬ (lws τ k2 (mns τ k1 d1 p) = 10) := fun q => h140 ((zc_m4 (by omega)).mpr q)
                      rw [show zc 10 (lws τ k2 (mns τ k1 d1 p)) = nI (lws τ k2 (mns τ k1 d1 p)) from zc_n h140] at hl
                      refine lv_aload_n hx hb dX0_settleFrom_146 rfl (lv_at hl 2 rfl) ?_
                      refine lv_iload hx hb dX0_settleFrom_147 (lv_at hl 7 rfl) ?_
                      refine lv_iload hx hb dX0_settleFrom_149 (lv_at hl 8 rfl) ?_
                      refine lv_iload hx hb dX0_settleFrom_151 (lv_at hl 10 rfl) ?_
                      refine lv_iload hx hb dX0_settleFrom_153 (lv_at hl 0 rfl) ?_
                      refine zwrW (G := G) (wc := (wA G a τ)) (wc' := (wA G a (su τ (64 + 53 * k2 + (10 * d2 + p)) (lws τ k2 (mns τ k1 d1 p))))) (va_runV (As := [.int (nI k2), .int (nI d2), .int (nI p), .int (nI (lws τ k2 (mns τ k1 d1 p)))]) (rest := []) ⟨hx, hb, hml, hown, hts⟩ (kX0_putSign l G a τ k2 d2 p (lws τ k2 (mns τ k1 d1 p)) (by omega) (by omega) (by omega) (zD_any hD)) (cwV 4 hts gX0_settleFrom_X0_putSign rfl rfl rfl (by decide +kernel) ⟨Nat.le_of_ble_eq_true rfl, Nat.le_of_ble_eq_true rfl⟩) (zPreV hG (va_recv (q0 := 0) (ci := 0) hG.1 hP rfl rfl) (hP)) rfl rfl hl.1 rfl (lv_room (Nat.le_of_ble_eq_true rfl)) dX0_settleFrom_155 ⟨Nat.le_of_ble_eq_true rfl, Nat.le_of_ble_eq_true rfl⟩) hP hD hS rfl (fun H locs hP hD hS => ?_)
                      have hP : va_P G.1 vwCl (wA G a (su τ (64 + 53 * k2 + (10 * d2 + p)) (lws τ k2 (mns τ k1 d1 p)))) H := hP
                      have hD : va_D (zA (wA G a σ)) (wA G a (su τ (64 + 53 * k2 + (10 * d2 + p)) (lws τ k2 (mns τ k1 d1 p)))) := hD
                      refine lv_pop hx hb dX0_settleFrom_158 rfl ?_
                      refine lv_iinc (v := nI (x + 1)) (lv' := [(7, .int (nI (x + 1))), (10, .int (nI (lws τ k2 (mns τ k1 d1 p)))), (9, .int (nI (mns τ k1 d1 p))), (0, .ref (a 0)), (1, .int (nI e)), (2, .int (nI k1)), (3, .int (nI 1)), (4, .int (nI d1)), (5, .int (nI k2)), (6, .int (nI d2)), (8, .int (nI p))]) hx hb dX0_settleFrom_159 hl (k := 9) rfl (zinc1 _) (by decide) rfl (fun ls hl => ?_)
                      refine lv_iinc (v := nI (p + 1)) (lv' := [(8, .int (nI (p + 1))), (7, .int (nI (x + 1))), (10, .int (nI (lws τ k2 (mns τ k1 d1 p)))), (9, .int (nI (mns τ k1 d1 p))), (0, .ref (a 0)), (1, .int (nI e)), (2, .int (nI k1)), (3, .int (nI 1)), (4, .int (nI d1)), (5, .int (nI k2)), (6, .int (nI d2))]) hx hb dX0_settleFrom_162 hl (k := 10) rfl (zinc1 _) (by decide) rfl (fun ls hl => ?_)
                      refine lv_goto (tgt := 78) hx hb dX0_settleFrom_165 (by decide) ?_
                      exact ih (p + 1) (su τ (64 + 53 * k2 + (10 * d2 + p)) (lws τ k2 (mns τ k1 d1 p))) (x + 1) (by rw [stl, ← hτ]; unfold stS; rw [if_neg h108, if_neg h118]) (by unfold stc at hxc ⊢; rw [sm, ← hxc, ← hτ, if_neg h108]) (fun j hj => by rcases Nat.lt_succ_iff_lt_or_eq.mp hj with q | q; exact hz j q; rw [q, ← hτ]; unfold sBad; simp [h118, h140]) (hOτ.su_sg (by omega) (by omega)) (by omega) (by omega) (by omega) _ (lv_sub hl [4, 5, 6, 7, 8, 9, 10, 1, 0] rfl) _ _ (hP) (hD) hS
                    · skip
                      have h140 : lws τ k2 (mns τ k1 d1 p) = 10 := (zc_m4 (by omega)).mp h140
                      refine lv_bipush (v := (-2)) hx hb dX0_settleFrom_143 (by decide) ?_
                      have hB : sbd σ k1 d1 k2 d2 = p := fst1_at (by omega) hz (by rw [← hτ]; unfold sBad; simp [h108, h118, h140])
                      exact hret _ _ _ _ _ dX0_settleFrom_145 hS (⟨fun _ => ⟨τ, hP⟩, fun q => absurd (show sbd σ k1 d1 k2 d2 < 10 by omega) q⟩) (by rw [if_pos (by omega)])
                  · skip
                    have h118 : mns τ k1 d1 p = 10 := (zc_m4 (by omega)).mp h118
                    refine lv_bipush (v := nI 10) hx hb dX0_settleFrom_121 (by decide) ?_
                    refine lv_goto (tgt := 134) hx hb dX0_settleFrom_123 (by decide) ?_
                    refine lv_istore (lv' := [(10, .int (nI 10)), (9, .int (zc 10 (mns τ k1 d1 p))), (0, .ref (a 0)), (1, .int (nI e)), (2, .int (nI k1)), (3, .int (nI 1)), (4, .int (nI d1)), (5, .int (nI k2)), (6, .int (nI d2)), (7, .int (nI x)), (8, .int (nI p))]) hx hb dX0_settleFrom_134 hl (by decide) rfl (fun ls hl => ?_)
                    refine lv_iload hx hb dX0_settleFrom_136 (lv_at hl 0 rfl) ?_
                    refine lv_bipush (v := (-4)) hx hb dX0_settleFrom_138 (by decide) ?_
                    refine lv_icmp_ne (tgt := 146) hx hb dX0_settleFrom_140 (by decide) (fun h140 => ?_) (fun h140 => ?_)
                    · skip
                      have h140 : ¬ (False) := fun q => h140 ((z_10).mpr q)
                      refine lv_aload_n hx hb dX0_settleFrom_146 rfl (lv_at hl 2 rfl) ?_
                      refine lv_iload hx hb dX0_settleFrom_147 (lv_at hl 7 rfl) ?_
                      refine lv_iload hx hb dX0_settleFrom_149 (lv_at hl 8 rfl) ?_
                      refine lv_iload hx hb dX0_settleFrom_151 (lv_at hl 10 rfl) ?_
                      refine lv_iload hx hb dX0_settleFrom_153 (lv_at hl 0 rfl) ?_
                      refine zwrW (G := G) (wc := (wA G a τ)) (wc' := (wA G a (su τ (64 + 53 * k2 + (10 * d2 + p)) 10))) (va_runV (As := [.int (nI k2), .int (nI d2), .int (nI p), .int (nI 10)]) (rest := []) ⟨hx, hb, hml, hown, hts⟩ (kX0_putSign l G a τ k2 d2 p 10 (by omega) (by omega) (by omega) (zD_any hD)) (cwV 4 hts gX0_settleFrom_X0_putSign rfl rfl rfl (by decide +kernel) ⟨Nat.le_of_ble_eq_true rfl, Nat.le_of_ble_eq_true rfl⟩) (zPreV hG (va_recv (q0 := 0) (ci := 0) hG.1 hP rfl rfl) (hP)) rfl rfl hl.1 rfl (lv_room (Nat.le_of_ble_eq_true rfl)) dX0_settleFrom_155 ⟨Nat.le_of_ble_eq_true rfl, Nat.le_of_ble_eq_true rfl⟩) hP hD hS rfl (fun H locs hP hD hS => ?_)
                      have hP : va_P G.1 vwCl (wA G a (su τ (64 + 53 * k2 + (10 * d2 + p)) 10)) H := hP
                      have hD : va_D (zA (wA G a σ)) (wA G a (su τ (64 + 53 * k2 + (10 * d2 + p)) 10)) := hD
                      refine lv_pop hx hb dX0_settleFrom_158 rfl ?_
                      refine lv_iinc (v := nI (x + 1)) (lv' := [(7, .int (nI (x + 1))), (10, .int (nI 10)), (9, .int (zc 10 (mns τ k1 d1 p))), (0, .ref (a 0)), (1, .int (nI e)), (2, .int (nI k1)), (3, .int (nI 1)), (4, .int (nI d1)), (5, .int (nI k2)), (6, .int (nI d2)), (8, .int (nI p))]) hx hb dX0_settleFrom_159 hl (k := 9) rfl (zinc1 _) (by decide) rfl (fun ls hl => ?_)
                      refine lv_iinc (v := nI (p + 1)) (lv' := [(8, .int (nI (p + 1))), (7, .int (nI (x + 1))), (10, .int (nI 10)), (9, .int (zc 10 (mns τ k1 d1 p))), (0, .ref (a 0)), (1, .int (nI e)), (2, .int (nI k1)), (3, .int (nI 1)), (4, .int (nI d1)), (5, .int (nI k2)), (6, .int (nI d2))]) hx hb dX0_settleFrom_162 hl (k := 10) rfl (zinc1 _) (by decide) rfl (fun ls hl => ?_)
                      refine lv_goto (tgt := 78) hx hb dX0_settleFrom_165 (by decide) ?_
                      exact ih (p + 1) (su τ (64 + 53 * k2 + (10 * d2 + p)) 10) (x + 1) (by rw [stl, ← hτ]; unfold stS; rw [if_neg h108, if_pos h118]) (by unfold stc at hxc ⊢; rw [sm, ← hxc, ← hτ, if_neg h108]) (fun j hj => by rcases Nat.lt_succ_iff_lt_or_eq.mp hj with q | q; exact hz j q; rw [q, ← hτ]; unfold sBad; simp [h118]) (hOτ.su_sg (by omega) (by omega)) (by omega) (by omega) (by omega) _ (lv_sub hl [4, 5, 6, 7, 8, 9, 10, 1, 0] rfl) _ _ (hP) (hD) hS
                    · skip
                      have h140 : False := (z_10).mp h140
                      exfalso; omega
                · skip
                  have h108 : mns τ k1 d1 p = mns τ k2 d2 p := (zc_eq (by omega) (by omega)).mp h108
                  refine lv_goto (tgt := 162) hx hb dX0_settleFrom_111 (by decide) ?_
                  refine lv_iinc (v := nI (p + 1)) (lv' := [(8, .int (nI (p + 1))), (9, .int (zc 10 (mns τ k1 d1 p))), (0, .ref (a 0)), (1, .int (nI e)), (2, .int (nI k1)), (3, .int (nI 1)), (4, .int (nI d1)), (5, .int (nI k2)), (6, .int (nI d2)), (7, .int (nI x))]) hx hb dX0_settleFrom_162 hl (k := 9) rfl (zinc1 _) (by decide) rfl (fun ls hl => ?_)
                  refine lv_goto (tgt := 78) hx hb dX0_settleFrom_165 (by decide) ?_
                  exact ih (p + 1) τ x (by rw [stl, ← hτ]; unfold stS; rw [if_pos h108]) (by unfold stc at hxc ⊢; rw [sm, ← hxc, ← hτ, if_pos h108]; rfl) (fun j hj => by rcases Nat.lt_succ_iff_lt_or_eq.mp hj with q | q; exact hz j q; rw [q, ← hτ]; unfold sBad; simp [h108]) (hOτ) (by omega) (by omega) (by omega) _ (lv_sub hl [2, 3, 4, 5, 6, 7, 8, 9, 0] rfl) _ _ (hP) (hD) hS
          exact loop78 11 0 σ 0 (rfl) (rfl) (fun j hj => absurd hj (Nat.not_lt_zero j)) (hO) (by omega) (by omega) (by omega) _ (lv_sub hl [6, 7, 8, 5, 4, 3, 2, 1, 0] rfl) _ _ (hP) (hD) hS
set_option maxHeartbeats 4000000 in
set_option maxRecDepth 100000 in
theorem kX0_settleFrom_s (l : Launch) (G : zG) (a : Nat → Nat) (σ : Nat → Nat) {N : Nat} (d1 k2 d2 : Nat) (e : Nat) (k1 : Nat) (hO : Ok N σ) (he : e < nE σ) (h1 : k1 = sS σ e) (hd1 : d1 = sD σ e) (h2 : k2 = fS σ e) (hd2 : d2 = fD σ e) (hd : va_D (fun _ => True) (wA G a σ)) : Met l yX0_settleFrom wsX0_settleFrom (zRm 3 67) (zPc G [.ref (a 0), .int (nI e), .int (nI k1)] (va_P G.1 vwCl (wA G a σ))) (zQ (zA (wA G a σ)) (some (.int (if sbd σ k1 d1 k2 d2 < 10 then (-2) else nI (stc σ k1 d1 k2 d2 10)))) (fun H => (sbd σ k1 d1 k2 d2 < 10 → ∃ τ, va_P G.1 vwCl (wA G a τ) H) ∧ (¬ sbd σ k1 d1 k2 d2 < 10 → va_P G.1 vwCl (wA G a (stE σ k1 d1 k2 d2)) H))) 0 0 (zA (wA G a σ)) := by
  refine zmkWi (w := (wA G a σ)) hd (cc := cX0_settleFrom) (maxL := 11) (by decide) rfl (Nat.le_of_ble_eq_true rfl) ?_
  intro pr en st mi ar bl me cd ls Q hx hb hml hown hts hG hP hl hD hS hret
  have hown : st.vm.findClass RX0 = some mi.cls := hown
  have hl : lv_has ls 11 [(0, .ref (a 0)), (1, .int (nI e)), (2, .int (nI k1))] := hl
  have hP : va_P G.1 vwCl (wA G a σ) st.heap := hP
  have hD : va_D (zA (wA G a σ)) (wA G a σ) := hD
  have hc := hO.c
  have hs := hO.lS
  have hr := hO.lR
  have hne := hO.lE
  have hfs := hO.lF he
  have hda := fD_lt σ e
  have hdb := sD_lt σ e
  have hlt : fS σ e < sS σ e := by unfold sS; have := hO.c; split <;> omega
  refine lv_iload_n hx hb dX0_settleFrom_0 rfl (lv_at hl 2 rfl) ?_
  refine lv_aload_n hx hb dX0_settleFrom_1 rfl (lv_at hl 0 rfl) ?_
  refine lv_iload_n hx hb dX0_settleFrom_2 rfl (lv_at hl 1 rfl) ?_
  refine zrdV (As := [.int (nI e)]) ⟨hx, hb, hml, hown, hts⟩ (kX0_firstSheet l G a σ e (hO) (by omega)) (cwV 1 hts gX0_settleFrom_X0_firstSheet rfl rfl rfl (by decide +kernel) ⟨Nat.le_of_ble_eq_true rfl, Nat.le_of_ble_eq_true rfl⟩) hG (va_recv (q0 := 0) (ci := 0) hG.1 hP rfl rfl) (hP) rfl rfl hl.1 dX0_settleFrom_3 (Nat.le_of_ble_eq_true rfl) ⟨Nat.le_of_ble_eq_true rfl, Nat.le_of_ble_eq_true rfl⟩ ?_
  have hf3_0 := hO.lF (show e < nE σ by omega)
  refine lv_icmp_ne (tgt := 13) hx hb dX0_settleFrom_6 (by decide) (fun h6 => ?_) (fun h6 => ?_)
  · skip
    have h6 : ¬ (k1 = (fS σ e)) := fun q => h6 ((nI_eq (by omega) (by omega)).mpr q)
    refine lv_iconst (v := nI 0) hx hb dX0_settleFrom_13 (by decide) ?_
    refine lv_istore_n (lv' := [(3, .int (nI 0)), (0, .ref (a 0)), (1, .int (nI e)), (2, .int (nI k1))]) hx hb dX0_settleFrom_14 rfl hl (by decide) rfl (fun ls hl => ?_)
    refine lv_iload_n hx hb dX0_settleFrom_15 rfl (lv_at hl 0 rfl) ?_
    refine lv_if_eq (tgt := 27) hx hb dX0_settleFrom_16 (by decide) (fun h16 => ?_) (fun h16 => ?_)
    · skip
      have h16 : 0 = 0 := (z_eq0 (by omega)).mp h16
      refine lv_aload_n hx hb dX0_settleFrom_27 rfl (lv_at hl 1 rfl) ?_
      refine lv_iload_n hx hb dX0_settleFrom_28 rfl (lv_at hl 2 rfl) ?_
      refine zrdV (As := [.int (nI e)]) ⟨hx, hb, hml, hown, hts⟩ (kX0_secondSide l G a σ e (hO) (by omega)) (cwV 1 hts gX0_settleFrom_X0_secondSide rfl rfl rfl (by decide +kernel) ⟨Nat.le_of_ble_eq_true rfl, Nat.le_of_ble_eq_true rfl⟩) hG (va_recv (q0 := 0) (ci := 0) hG.1 hP rfl rfl) (hP) rfl rfl hl.1 dX0_settleFrom_29 (Nat.le_of_ble_eq_true rfl) ⟨Nat.le_of_ble_eq_true rfl, Nat.le_of_ble_eq_true rfl⟩ ?_
      refine lv_topi (nm_r (e' := nI d1) (by rw [hd1]) ?_)
      refine lv_istore (lv' := [(4, .int (nI d1)), (3, .int (nI 0)), (0, .ref (a 0)), (1, .int (nI e)), (2, .int (nI k1))]) hx hb dX0_settleFrom_32 hl (by decide) rfl (fun ls hl => ?_)
      refine lv_iload_n hx hb dX0_settleFrom_34 rfl (lv_at hl 1 rfl) ?_
      refine lv_if_eq (tgt := 46) hx hb dX0_settleFrom_35 (by decide) (fun h35 => ?_) (fun h35 => ?_)
      · skip
        have h35 : 0 = 0 := (z_eq0 (by omega)).mp h35
        refine lv_aload_n hx hb dX0_settleFrom_46 rfl (lv_at hl 2 rfl) ?_
        refine lv_iload_n hx hb dX0_settleFrom_47 rfl (lv_at hl 3 rfl) ?_
        refine zrdV (As := [.int (nI e)]) ⟨hx, hb, hml, hown, hts⟩ (kX0_firstSheet l G a σ e (hO) (by omega)) (cwV 1 hts gX0_settleFrom_X0_firstSheet rfl rfl rfl (by decide +kernel) ⟨Nat.le_of_ble_eq_true rfl, Nat.le_of_ble_eq_true rfl⟩) hG (va_recv (q0 := 0) (ci := 0) hG.1 hP rfl rfl) (hP) rfl rfl hl.1 dX0_settleFrom_48 (Nat.le_of_ble_eq_true rfl) ⟨Nat.le_of_ble_eq_true rfl, Nat.le_of_ble_eq_true rfl⟩ ?_
        have hf48_0 := hO.lF (show e < nE σ by omega)
        refine lv_topi (nm_r (e' := nI k2) (by rw [h2]) ?_)
        refine lv_istore (lv' := [(5, .int (nI k2)), (4, .int (nI d1)), (3, .int (nI 0)), (0, .ref (a 0)), (1, .int (nI e)), (2, .int (nI k1))]) hx hb dX0_settleFrom_51 hl (by decide) rfl (fun ls hl => ?_)
        refine lv_iload_n hx hb dX0_settleFrom_53 rfl (lv_at hl 2 rfl) ?_
        refine lv_if_eq (tgt := 65) hx hb dX0_settleFrom_54 (by decide) (fun h54 => ?_) (fun h54 => ?_)
        · skip
          have h54 : 0 = 0 := (z_eq0 (by omega)).mp h54
          refine lv_aload_n hx hb dX0_settleFrom_65 rfl (lv_at hl 3 rfl) ?_
          refine lv_iload_n hx hb dX0_settleFrom_66 rfl (lv_at hl 4 rfl) ?_
          refine zrdV (As := [.int (nI e)]) ⟨hx, hb, hml, hown, hts⟩ (kX0_firstSide l G a σ e (hO) (by omega)) (cwV 1 hts gX0_settleFrom_X0_firstSide rfl rfl rfl (by decide +kernel) ⟨Nat.le_of_ble_eq_true rfl, Nat.le_of_ble_eq_true rfl⟩) hG (va_recv (q0 := 0) (ci := 0) hG.1 hP rfl rfl) (hP) rfl rfl hl.1 dX0_settleFrom_67 (Nat.le_of_ble_eq_true rfl) ⟨Nat.le_of_ble_eq_true rfl, Nat.le_of_ble_eq_true rfl⟩ ?_
          refine lv_topi (nm_r (e' := nI d2) (by rw [hd2]) ?_)
          refine lv_istore (lv' := [(6, .int (nI d2)), (5, .int (nI k2)), (4, .int (nI d1)), (3, .int (nI 0)), (0, .ref (a 0)), (1, .int (nI e)), (2, .int (nI k1))]) hx hb dX0_settleFrom_70 hl (by decide) rfl (fun ls hl => ?_)
          refine lv_iconst (v := nI 0) hx hb dX0_settleFrom_72 (by decide) ?_
          refine lv_istore (lv' := [(7, .int (nI 0)), (6, .int (nI d2)), (5, .int (nI k2)), (4, .int (nI d1)), (3, .int (nI 0)), (0, .ref (a 0)), (1, .int (nI e)), (2, .int (nI k1))]) hx hb dX0_settleFrom_73 hl (by decide) rfl (fun ls hl => ?_)
          refine lv_iconst (v := nI 0) hx hb dX0_settleFrom_75 (by decide) ?_
          refine lv_istore (lv' := [(8, .int (nI 0)), (7, .int (nI 0)), (6, .int (nI d2)), (5, .int (nI k2)), (4, .int (nI d1)), (3, .int (nI 0)), (0, .ref (a 0)), (1, .int (nI e)), (2, .int (nI k1))]) hx hb dX0_settleFrom_76 hl (by decide) rfl (fun ls hl => ?_)
          have loop78 : ∀ (n : Nat) (p : Nat) (τ : Nat → Nat) (x : Nat) (hτ : τ = stl σ k1 d1 k2 d2 p) (hxc : x = stc σ k1 d1 k2 d2 p) (hz : ∀ j, j < p → sBad (stl σ k1 d1 k2 d2 j) k1 d1 k2 d2 j = false) (hOτ : Ok N τ) (hp : p ≤ 10) (hxp : x ≤ p) (hn : 10 < p + n) (ls : Array Slot) (hl : lv_has ls 11 [(0, .ref (a 0)), (1, .int (nI e)), (2, .int (nI k1)), (3, .int (nI 0)), (4, .int (nI d1)), (5, .int (nI k2)), (6, .int (nI d2)), (7, .int (nI x)), (8, .int (nI p))]) (H : Heap) (locs : List Loc) (hP : va_P G.1 vwCl (wA G a τ) H) (hD : va_D (zA (wA G a σ)) (wA G a τ)) (hS : va_S (zA (wA G a σ)) st.heap H locs), W pr l en (zRm 3 67) st mi ar bl me cd H locs 0 0 Q (F0 mi 78 ls []) := by
            intro n
            induction n with
            | zero => intro p τ x hτ hxc hz hOτ hp hxp hn ls hl H locs hP hD hS; exfalso; omega
            | succ n ih =>
              intro p τ x hτ hxc hz hOτ hp hxp hn ls hl H locs hP hD hS
              refine lv_iload hx hb dX0_settleFrom_78 (lv_at hl 8 rfl) ?_
              refine lv_bipush (v := nI 10) hx hb dX0_settleFrom_80 (by decide) ?_
              refine lv_icmp_ge (tgt := 168) hx hb dX0_settleFrom_82 (by decide) (fun h82 => ?_) (fun h82 => ?_)
              · skip
                have h82 : 10 ≤ p := (nI_leI (by omega) (by omega)).mp h82
                refine lv_iload hx hb dX0_settleFrom_168 (lv_at hl 7 rfl) ?_
                refine lv_if_le (tgt := 179) hx hb dX0_settleFrom_170 (by decide) (fun h170 => ?_) (fun h170 => ?_)
                · skip
                  have h170 : x = 0 := (z_le0 (by omega)).mp h170
                  refine lv_iload hx hb dX0_settleFrom_179 (lv_at hl 7 rfl) ?_
                  have hB : sbd σ k1 d1 k2 d2 = 10 := fst1_no (fun j hj => hz j (by omega))
                  obtain rfl : p = 10 := (by omega)
                  exact hret _ _ _ _ _ dX0_settleFrom_181 hS (⟨fun q => absurd q (by omega), fun _ => by unfold stE; rw [← hxc, if_neg (by omega), ← hτ]; exact hP⟩) (by rw [if_neg (by omega), ← hxc])
                · skip
                  have h170 : ¬ (x = 0) := fun q => h170 ((z_le0 (by omega)).mpr q)
                  have h170 : 0 < x := Nat.pos_of_ne_zero h170
                  refine lv_aload_n hx hb dX0_settleFrom_173 rfl (lv_at hl 0 rfl) ?_
                  refine lv_iload hx hb dX0_settleFrom_174 (lv_at hl 5 rfl) ?_
                  refine zwrWv (G := G) (wc := (wA G a τ)) (wc' := (wA G a (su τ (114 + 53 * k2) (rvn τ k2 + 1)))) (va_runV (As := [.int (nI k2)]) (rest := []) ⟨hx, hb, hml, hown, hts⟩ (kX0_addRevision l G a τ k2 (hOτ) (by omega) (zD_any hD)) (cwV 1 hts gX0_settleFrom_X0_addRevision rfl rfl rfl (by decide +kernel) ⟨Nat.le_of_ble_eq_true rfl, Nat.le_of_ble_eq_true rfl⟩) (zPreV hG (va_recv (q0 := 0) (ci := 0) hG.1 hP rfl rfl) (hP)) rfl rfl hl.1 rfl (lv_room (Nat.le_of_ble_eq_true rfl)) dX0_settleFrom_176 ⟨Nat.le_of_ble_eq_true rfl, Nat.le_of_ble_eq_true rfl⟩) hP hD hS rfl (fun H locs hP hD hS => ?_)
                  have hP : va_P G.1 vwCl (wA G a (su τ (114 + 53 * k2) (rvn τ k2 + 1))) H := hP
                  have hD : va_D (zA (wA G a σ)) (wA G a (su τ (114 + 53 * k2) (rvn τ k2 + 1))) := hD
                  refine lv_iload hx hb dX0_settleFrom_179 (lv_at hl 7 rfl) ?_
                  have hB : sbd σ k1 d1 k2 d2 = 10 := fst1_no (fun j hj => hz j (by omega))
                  obtain rfl : p = 10 := (by omega)
                  exact hret _ _ _ _ _ dX0_settleFrom_181 hS (⟨fun q => absurd q (by omega), fun _ => by unfold stE; rw [← hxc, if_pos h170, ← hτ]; exact hP⟩) (by rw [if_neg (by omega), ← hxc])
              · skip
                have h82 : ¬ (10 ≤ p) := fun q => h82 ((nI_leI (by omega) (by omega)).mpr q)
                refine lv_aload_n hx hb dX0_settleFrom_85 rfl (lv_at hl 0 rfl) ?_
                refine lv_iload_n hx hb dX0_settleFrom_86 rfl (lv_at hl 2 rfl) ?_
                refine lv_iload hx hb dX0_settleFrom_87 (lv_at hl 4 rfl) ?_
                refine lv_iload hx hb dX0_settleFrom_89 (lv_at hl 8 rfl) ?_
                refine zrdV (As := [.int (nI k1), .int (nI d1), .int (nI p)]) ⟨hx, hb, hml, hown, hts⟩ (kX0_meaningAt l G a τ k1 d1 p (hOτ) (by omega) (by omega) (by omega)) (cwV 3 hts gX0_settleFrom_X0_meaningAt rfl rfl rfl (by decide +kernel) ⟨Nat.le_of_ble_eq_true rfl, Nat.le_of_ble_eq_true rfl⟩) hG (va_recv (q0 := 0) (ci := 0) hG.1 hP rfl rfl) (hP) rfl rfl hl.1 dX0_settleFrom_91 (Nat.le_of_ble_eq_true rfl) ⟨Nat.le_of_ble_eq_true rfl, Nat.le_of_ble_eq_true rfl⟩ ?_
                have hf91_0 := hOτ.mn (show k1 < 36 by omega) (show d1 < 4 by omega) (show p < 10 by omega)
                refine lv_istore (lv' := [(9, .int (zc 10 (mns τ k1 d1 p))), (0, .ref (a 0)), (1, .int (nI e)), (2, .int (nI k1)), (3, .int (nI 0)), (4, .int (nI d1)), (5, .int (nI k2)), (6, .int (nI d2)), (7, .int (nI x)), (8, .int (nI p))]) hx hb dX0_settleFrom_94 hl (by decide) rfl (fun ls hl => ?_)
                refine lv_iload hx hb dX0_settleFrom_96 (lv_at hl 0 rfl) ?_
                refine lv_aload_n hx hb dX0_settleFrom_98 rfl (lv_at hl 1 rfl) ?_
                refine lv_iload hx hb dX0_settleFrom_99 (lv_at hl 6 rfl) ?_
                refine lv_iload hx hb dX0_settleFrom_101 (lv_at hl 7 rfl) ?_
                refine lv_iload hx hb dX0_settleFrom_103 (lv_at hl 9 rfl) ?_
                refine zrdV (As := [.int (nI k2), .int (nI d2), .int (nI p)]) ⟨hx, hb, hml, hown, hts⟩ (kX0_meaningAt l G a τ k2 d2 p (hOτ) (by omega) (by omega) (by omega)) (cwV 3 hts gX0_settleFrom_X0_meaningAt rfl rfl rfl (by decide +kernel) ⟨Nat.le_of_ble_eq_true rfl, Nat.le_of_ble_eq_true rfl⟩) hG (va_recv (q0 := 0) (ci := 0) hG.1 hP rfl rfl) (hP) rfl rfl hl.1 dX0_settleFrom_105 (Nat.le_of_ble_eq_true rfl) ⟨Nat.le_of_ble_eq_true rfl, Nat.le_of_ble_eq_true rfl⟩ ?_
                have hf105_0 := hOτ.mn (show k2 < 36 by omega) (show d2 < 4 by omega) (show p < 10 by omega)
                refine lv_icmp_ne (tgt := 114) hx hb dX0_settleFrom_108 (by decide) (fun h108 => ?_) (fun h108 => ?_)
                · skip
                  have h108 : ¬ (mns τ k1 d1 p = mns τ k2 d2 p) := fun q => h108 ((zc_eq (by omega) (by omega)).mpr q)
                  refine lv_iload hx hb dX0_settleFrom_114 (lv_at hl 0 rfl) ?_
                  refine lv_bipush (v := (-4)) hx hb dX0_settleFrom_116 (by decide) ?_
                  refine lv_icmp_ne (tgt := 126) hx hb dX0_settleFrom_118 (by decide) (fun h118 => ?_) (fun h118 => ?_)
                  · skip
                    have h118 : ¬ (mns τ k1 d1 p = 10) := fun q => h118 ((zc_m4 (by omega)).mpr q)
                    rw [show zc 10 (mns τ k1 d1 p) = nI (mns τ k1 d1 p) from zc_n h118] at hl
                    refine lv_aload_n hx hb dX0_settleFrom_126 rfl (lv_at hl 1 rfl) ?_
                    refine lv_iload hx hb dX0_settleFrom_127 (lv_at hl 6 rfl) ?_
                    refine lv_iload hx hb dX0_settleFrom_129 (lv_at hl 0 rfl) ?_
                    refine zrdV (As := [.int (nI k2), .int (nI (mns τ k1 d1 p))]) ⟨hx, hb, hml, hown, hts⟩ (kX0_lowestSign l G a τ k2 (mns τ k1 d1 p) (hOτ) (by omega) (by omega)) (cwV 2 hts gX0_settleFrom_X0_lowestSign rfl rfl rfl (by decide +kernel) ⟨Nat.le_of_ble_eq_true rfl, Nat.le_of_ble_eq_true rfl⟩) hG (va_recv (q0 := 0) (ci := 0) hG.1 hP rfl rfl) (hP) rfl rfl hl.1 dX0_settleFrom_131 (Nat.le_of_ble_eq_true rfl) ⟨Nat.le_of_ble_eq_true rfl, Nat.le_of_ble_eq_true rfl⟩ ?_
                    have hf131_0 := lws_le τ (k2) ((mns τ k1 d1 p))
                    refine lv_istore (lv' := [(10, .int (zc 10 (lws τ k2 (mns τ k1 d1 p)))), (9, .int (nI (mns τ k1 d1 p))), (0, .ref (a 0)), (1, .int (nI e)), (2, .int (nI k1)), (3, .int (nI 0)), (4, .int (nI d1)), (5, .int (nI k2)), (6, .int (nI d2)), (7, .int (nI x)), (8, .int (nI p))]) hx hb dX0_settleFrom_134 hl (by decide) rfl (fun ls hl => ?_)
                    refine lv_iload hx hb dX0_settleFrom_136 (lv_at hl 0 rfl) ?_
                    refine lv_bipush (v := (-4)) hx hb dX0_settleFrom_138 (by decide) ?_
                    refine lv_icmp_ne (tgt := 146) hx hb dX0_settleFrom_140 (by decide) (fun h140 => ?_) (fun h140 => ?_)
                    · skip
                      have h140 : ¬ (lws τ k2 (mns τ k1 d1 p) = 10) := fun q => h140 ((zc_m4 (by omega)).mpr q)
                      rw [show zc 10 (lws τ k2 (mns τ k1 d1 p)) = nI (lws τ k2 (mns τ k1 d1 p)) from zc_n h140] at hl
                      refine lv_aload_n hx hb dX0_settleFrom_146 rfl (lv_at hl 2 rfl) ?_
                      refine lv_iload hx hb dX0_settleFrom_147 (lv_at hl 7 rfl) ?_
                      refine lv_iload hx hb dX0_settleFrom_149 (lv_at hl 8 rfl) ?_
                      refine lv_iload hx hb dX0_settleFrom_151 (lv_at hl 10 rfl) ?_
                      refine lv_iload hx hb dX0_settleFrom_153 (lv_at hl 0 rfl) ?_
                      refine zwrW (G := G) (wc := (wA G a τ)) (wc' := (wA G a (su τ (64 + 53 * k2 + (10 * d2 + p)) (lws τ k2 (mns τ k1 d1 p))))) (va_runV (As := [.int (nI k2), .int (nI d2), .int (nI p), .int (nI (lws τ k2 (mns τ k1 d1 p)))]) (rest := []) ⟨hx, hb, hml, hown, hts⟩ (kX0_putSign l G a τ k2 d2 p (lws τ k2 (mns τ k1 d1 p)) (by omega) (by omega) (by omega) (zD_any hD)) (cwV 4 hts gX0_settleFrom_X0_putSign rfl rfl rfl (by decide +kernel) ⟨Nat.le_of_ble_eq_true rfl, Nat.le_of_ble_eq_true rfl⟩) (zPreV hG (va_recv (q0 := 0) (ci := 0) hG.1 hP rfl rfl) (hP)) rfl rfl hl.1 rfl (lv_room (Nat.le_of_ble_eq_true rfl)) dX0_settleFrom_155 ⟨Nat.le_of_ble_eq_true rfl, Nat.le_of_ble_eq_true rfl⟩) hP hD hS rfl (fun H locs hP hD hS => ?_)
                      have hP : va_P G.1 vwCl (wA G a (su τ (64 + 53 * k2 + (10 * d2 + p)) (lws τ k2 (mns τ k1 d1 p)))) H := hP
                      have hD : va_D (zA (wA G a σ)) (wA G a (su τ (64 + 53 * k2 + (10 * d2 + p)) (lws τ k2 (mns τ k1 d1 p)))) := hD
                      refine lv_pop hx hb dX0_settleFrom_158 rfl ?_
                      refine lv_iinc (v := nI (x + 1)) (lv' := [(7, .int (nI (x + 1))), (10, .int (nI (lws τ k2 (mns τ k1 d1 p)))), (9, .int (nI (mns τ k1 d1 p))), (0, .ref (a 0)), (1, .int (nI e)), (2, .int (nI k1)), (3, .int (nI 0)), (4, .int (nI d1)), (5, .int (nI k2)), (6, .int (nI d2)), (8, .int (nI p))]) hx hb dX0_settleFrom_159 hl (k := 9) rfl (zinc1 _) (by decide) rfl (fun ls hl => ?_)
                      refine lv_iinc (v := nI (p + 1)) (lv' := [(8, .int (nI (p + 1))), (7, .int (nI (x + 1))), (10, .int (nI (lws τ k2 (mns τ k1 d1 p)))), (9, .int (nI (mns τ k1 d1 p))), (0, .ref (a 0)), (1, .int (nI e)), (2, .int (nI k1)), (3, .int (nI 0)), (4, .int (nI d1)), (5, .int (nI k2)), (6, .int (nI d2))]) hx hb dX0_settleFrom_162 hl (k := 10) rfl (zinc1 _) (by decide) rfl (fun ls hl => ?_)
                      refine lv_goto (tgt := 78) hx hb dX0_settleFrom_165 (by decide) ?_
                      exact ih (p + 1) (su τ (64 + 53 * k2 + (10 * d2 + p)) (lws τ k2 (mns τ k1 d1 p))) (x + 1) (by rw [stl, ← hτ]; unfold stS; rw [if_neg h108, if_neg h118]) (by unfold stc at hxc ⊢; rw [sm, ← hxc, ← hτ, if_neg h108]) (fun j hj => by rcases Nat.lt_succ_iff_lt_or_eq.mp hj with q | q; exact hz j q; rw [q, ← hτ]; unfold sBad; simp [h118, h140]) (hOτ.su_sg (by omega) (by omega)) (by omega) (by omega) (by omega) _ (lv_sub hl [4, 5, 6, 7, 8, 9, 10, 1, 0] rfl) _ _ (hP) (hD) hS
                    · skip
                      have h140 : lws τ k2 (mns τ k1 d1 p) = 10 := (zc_m4 (by omega)).mp h140
                      refine lv_bipush (v := (-2)) hx hb dX0_settleFrom_143 (by decide) ?_
                      have hB : sbd σ k1 d1 k2 d2 = p := fst1_at (by omega) hz (by rw [← hτ]; unfold sBad; simp [h108, h118, h140])
                      exact hret _ _ _ _ _ dX0_settleFrom_145 hS (⟨fun _ => ⟨τ, hP⟩, fun q => absurd (show sbd σ k1 d1 k2 d2 < 10 by omega) q⟩) (by rw [if_pos (by omega)])
                  · skip
                    have h118 : mns τ k1 d1 p = 10 := (zc_m4 (by omega)).mp h118
                    refine lv_bipush (v := nI 10) hx hb dX0_settleFrom_121 (by decide) ?_
                    refine lv_goto (tgt := 134) hx hb dX0_settleFrom_123 (by decide) ?_
                    refine lv_istore (lv' := [(10, .int (nI 10)), (9, .int (zc 10 (mns τ k1 d1 p))), (0, .ref (a 0)), (1, .int (nI e)), (2, .int (nI k1)), (3, .int (nI 0)), (4, .int (nI d1)), (5, .int (nI k2)), (6, .int (nI d2)), (7, .int (nI x)), (8, .int (nI p))]) hx hb dX0_settleFrom_134 hl (by decide) rfl (fun ls hl => ?_)
                    refine lv_iload hx hb dX0_settleFrom_136 (lv_at hl 0 rfl) ?_
                    refine lv_bipush (v := (-4)) hx hb dX0_settleFrom_138 (by decide) ?_
                    refine lv_icmp_ne (tgt := 146) hx hb dX0_settleFrom_140 (by decide) (fun h140 => ?_) (fun h140 => ?_)
                    · skip
                      have h140 : ¬ (False) := fun q => h140 ((z_10).mpr q)
                      refine lv_aload_n hx hb dX0_settleFrom_146 rfl (lv_at hl 2 rfl) ?_
                      refine lv_iload hx hb dX0_settleFrom_147 (lv_at hl 7 rfl) ?_
                      refine lv_iload hx hb dX0_settleFrom_149 (lv_at hl 8 rfl) ?_
                      refine lv_iload hx hb dX0_settleFrom_151 (lv_at hl 10 rfl) ?_
                      refine lv_iload hx hb dX0_settleFrom_153 (lv_at hl 0 rfl) ?_
                      refine zwrW (G := G) (wc := (wA G a τ)) (wc' := (wA G a (su τ (64 + 53 * k2 + (10 * d2 + p)) 10))) (va_runV (As := [.int (nI k2), .int (nI d2), .int (nI p), .int (nI 10)]) (rest := []) ⟨hx, hb, hml, hown, hts⟩ (kX0_putSign l G a τ k2 d2 p 10 (by omega) (by omega) (by omega) (zD_any hD)) (cwV 4 hts gX0_settleFrom_X0_putSign rfl rfl rfl (by decide +kernel) ⟨Nat.le_of_ble_eq_true rfl, Nat.le_of_ble_eq_true rfl⟩) (zPreV hG (va_recv (q0 := 0) (ci := 0) hG.1 hP rfl rfl) (hP)) rfl rfl hl.1 rfl (lv_room (Nat.le_of_ble_eq_true rfl)) dX0_settleFrom_155 ⟨Nat.le_of_ble_eq_true rfl, Nat.le_of_ble_eq_true rfl⟩) hP hD hS rfl (fun H locs hP hD hS => ?_)
                      have hP : va_P G.1 vwCl (wA G a (su τ (64 + 53 * k2 + (10 * d2 + p)) 10)) H := hP
                      have hD : va_D (zA (wA G a σ)) (wA G a (su τ (64 + 53 * k2 + (10 * d2 + p)) 10)) := hD
                      refine lv_pop hx hb dX0_settleFrom_158 rfl ?_
                      refine lv_iinc (v := nI (x + 1)) (lv' := [(7, .int (nI (x + 1))), (10, .int (nI 10)), (9, .int (zc 10 (mns τ k1 d1 p))), (0, .ref (a 0)), (1, .int (nI e)), (2, .int (nI k1)), (3, .int (nI 0)), (4, .int (nI d1)), (5, .int (nI k2)), (6, .int (nI d2)), (8, .int (nI p))]) hx hb dX0_settleFrom_159 hl (k := 9) rfl (zinc1 _) (by decide) rfl (fun ls hl => ?_)
                      refine lv_iinc (v := nI (p + 1)) (lv' := [(8, .int (nI (p + 1))), (7, .int (nI (x + 1))), (10, .int (nI 10)), (9, .int (zc 10 (mns τ k1 d1 p))), (0, .ref (a 0)), (1, .int (nI e)), (2, .int (nI k1)), (3, .int (nI 0)), (4, .int (nI d1)), (5, .int (nI k2)), (6, .int (nI d2))]) hx hb dX0_settleFrom_162 hl (k := 10) rfl (zinc1 _) (by decide) rfl (fun ls hl => ?_)
                      refine lv_goto (tgt := 78) hx hb dX0_settleFrom_165 (by decide) ?_
                      exact ih (p + 1) (su τ (64 + 53 * k2 + (10 * d2 + p)) 10) (x + 1) (by rw [stl, ← hτ]; unfold stS; rw [if_neg h108, if_pos h118]) (by unfold stc at hxc ⊢; rw [sm, ← hxc, ← hτ, if_neg h108]) (fun j hj => by rcases Nat.lt_succ_iff_lt_or_eq.mp hj with q | q; exact hz j q; rw [q, ← hτ]; unfold sBad; simp [h118]) (hOτ.su_sg (by omega) (by omega)) (by omega) (by omega) (by omega) _ (lv_sub hl [4, 5, 6, 7, 8, 9, 10, 1, 0] rfl) _ _ (hP) (hD) hS
                    · skip
                      have h140 : False := (z_10).mp h140
                      exfalso; omega
                · skip
                  have h108 : mns τ k1 d1 p = mns τ k2 d2 p := (zc_eq (by omega) (by omega)).mp h108
                  refine lv_goto (tgt := 162) hx hb dX0_settleFrom_111 (by decide) ?_
                  refine lv_iinc (v := nI (p + 1)) (lv' := [(8, .int (nI (p + 1))), (9, .int (zc 10 (mns τ k1 d1 p))), (0, .ref (a 0)), (1, .int (nI e)), (2, .int (nI k1)), (3, .int (nI 0)), (4, .int (nI d1)), (5, .int (nI k2)), (6, .int (nI d2)), (7, .int (nI x))]) hx hb dX0_settleFrom_162 hl (k := 9) rfl (zinc1 _) (by decide) rfl (fun ls hl => ?_)
                  refine lv_goto (tgt := 78) hx hb dX0_settleFrom_165 (by decide) ?_
                  exact ih (p + 1) τ x (by rw [stl, ← hτ]; unfold stS; rw [if_pos h108]) (by unfold stc at hxc ⊢; rw [sm, ← hxc, ← hτ, if_pos h108]; rfl) (fun j hj => by rcases Nat.lt_succ_iff_lt_or_eq.mp hj with q | q; exact hz j q; rw [q, ← hτ]; unfold sBad; simp [h108]) (hOτ) (by omega) (by omega) (by omega) _ (lv_sub hl [2, 3, 4, 5, 6, 7, 8, 9, 0] rfl) _ _ (hP) (hD) hS
          exact loop78 11 0 σ 0 (rfl) (rfl) (fun j hj => absurd hj (Nat.not_lt_zero j)) (hO) (by omega) (by omega) (by omega) _ (lv_sub hl [6, 7, 8, 5, 4, 3, 2, 1, 0] rfl) _ _ (hP) (hD) hS
        · skip
          have h54 : ¬ (0 = 0) := fun q => h54 ((z_eq0 (by omega)).mpr q)
          have h54 : 0 < 0 := Nat.pos_of_ne_zero h54
          exfalso; omega
      · skip
        have h35 : ¬ (0 = 0) := fun q => h35 ((z_eq0 (by omega)).mpr q)
        have h35 : 0 < 0 := Nat.pos_of_ne_zero h35
        exfalso; omega
    · skip
      have h16 : ¬ (0 = 0) := fun q => h16 ((z_eq0 (by omega)).mpr q)
      have h16 : 0 < 0 := Nat.pos_of_ne_zero h16
      exfalso; omega
  · skip
    have h6 : k1 = (fS σ e) := (nI_eq (by omega) (by omega)).mp h6
    exfalso; omega
