set_option maxHeartbeats 4000000 in
set_option maxRecDepth 100000 in
theorem kX1_find (l : Launch) (G : zG) (a b : Nat → Nat) (σ : Nat → Nat) {N : Nat} (f : Nat → Int32) (hO : Ok N σ) (hd : va_D (fun _ => True) (wA G a σ ++ wB G b f)) : Met l yX1_find wsX1_find (zRm 2 44) (zPc G [.ref (b 0), .ref (a 0)] (va_P G.1 vwCl (wA G a σ ++ wB G b f))) (zQ (zA (wA G a σ ++ wB G b f)) (some (.int (nI (fnd σ (nE σ))))) (va_P G.1 vwCl (wA G a σ ++ wB G b (fun k => nI (blk σ (nE σ) k))))) 0 0 (zA (wA G a σ ++ wB G b f)) := by
  refine zmkWi (w := (wA G a σ ++ wB G b f)) hd (cc := cX1_find) (maxL := 7) (by decide) rfl (Nat.le_of_ble_eq_true rfl) ?_
  intro pr en st mi ar bl me cd ls Q hx hb hml hown hts hG hP hl hD hS hret
  have hown : st.vm.findClass RX1 = some mi.cls := hown
  have hl : lv_has ls 7 [(0, .ref (b 0)), (1, .ref (a 0))] := hl
  have hP : va_P G.1 vwCl (wA G a σ ++ wB G b f) st.heap := hP
  have hD : va_D (zA (wA G a σ ++ wB G b f)) (wA G a σ ++ wB G b f) := hD
  have hinX1 : ∀ w ∈ wsX10, w ∈ wsX1_find := by decide +kernel
  have hf9 := hts (.fieldLink RX1 9 "MapSheets$Blocks" "lowest" "[I") (by decide +kernel)
  have hlk38 := hts (.methodLink RX1 38 Lib.Math.min.name) (by decide +kernel)
  have hst38 := hts (.static Lib.Math.min.name) (by decide +kernel)
  have hin38_ := hts (.initialized "java/lang/Math") (by decide +kernel)
  have hcd38 := hts (.code Lib.Math.min.name Lib.Math.min.code 2 (some .int)) (by decide +kernel)
  have hlk44 := hts (.methodLink RX1 44 Lib.Math.max.name) (by decide +kernel)
  have hst44 := hts (.static Lib.Math.max.name) (by decide +kernel)
  have hin44_ := hts (.initialized "java/lang/Math") (by decide +kernel)
  have hcd44 := hts (.code Lib.Math.max.name Lib.Math.max.code 2 (some .int)) (by decide +kernel)
  have hc := hO.c
  have hs := hO.lS
  have hr := hO.lR
  have hne := hO.lE
  refine lv_iconst (v := nI 0) hx hb dX1_find_0 (by decide) ?_
  refine lv_istore_n (lv' := [(2, .int (nI 0)), (0, .ref (b 0)), (1, .ref (a 0))]) hx hb dX1_find_1 rfl hl (by decide) rfl (fun ls hl => ?_)
  have loop2 : ∀ (n : Nat) (i : Nat) (g : Nat → Int32) (hg : ∀ j, j < i → g j = nI j) (hi : i ≤ 36) (hn : 36 < i + n) (ls : Array Slot) (hl : lv_has ls 7 [(0, .ref (b 0)), (1, .ref (a 0)), (2, .int (nI i))]) (H : Heap) (locs : List Loc) (hP : va_P G.1 vwCl (wA G a σ ++ wB G b g) H) (hD : va_D (zA (wA G a σ ++ wB G b f)) (wA G a σ ++ wB G b g)) (hS : va_S (zA (wA G a σ ++ wB G b f)) st.heap H locs), W pr l en (zRm 2 44) st mi ar bl me cd H locs 0 0 Q (F0 mi 2 ls []) := by
    intro n
    induction n with
    | zero => intro i g hg hi hn ls hl H locs hP hD hS; exfalso; omega
    | succ n ih =>
      intro i g hg hi hn ls hl H locs hP hD hS
      refine lv_iload_n hx hb dX1_find_2 rfl (lv_at hl 2 rfl) ?_
      refine lv_aload_n hx hb dX1_find_3 rfl (lv_at hl 0 rfl) ?_
      refine va_get (D := G.1) (ci := 1) (v := .ref (b 1)) (C := RX1) (T := TX1) (N := 1) hx hb hts hinX1 hown hG.1 hP 7 rfl rfl 0 (by decide) hf9 (fun _ h9 => h9) rfl dX1_find_4 ?_
      refine va_alen (v := nI 36) hx hb hG.1 hP 8 0 rfl rfl rfl dX1_find_7 ?_
      refine lv_icmp_ge (tgt := 24) hx hb dX1_find_8 (by decide) (fun h8 => ?_) (fun h8 => ?_)
      · skip
        have h8 : 36 ≤ i := (nI_leI (by omega) (by omega)).mp h8
        refine lv_aload_n hx hb dX1_find_24 rfl (lv_at hl 1 rfl) ?_
        refine zrdV (As := []) ⟨hx, hb, hml, hown, hts⟩ (kX0_edgeCount l G a σ (hO)) (cwV 0 hts gX1_find_X0_edgeCount rfl rfl rfl (by decide +kernel) ⟨Nat.le_of_ble_eq_true rfl, Nat.le_of_ble_eq_true rfl⟩) hG (va_recv (q0 := 0) (ci := 0) hG.1 (hP.sub (ws' := wA G a σ) [0, 1, 2, 3, 4, 5, 6] rfl) rfl rfl) ((hP.sub (ws' := wA G a σ) [0, 1, 2, 3, 4, 5, 6] rfl)) rfl rfl hl.1 dX1_find_25 (Nat.le_of_ble_eq_true rfl) ⟨Nat.le_of_ble_eq_true rfl, Nat.le_of_ble_eq_true rfl⟩ ?_
        refine lv_istore_n (lv' := [(2, .int (nI (nE σ))), (0, .ref (b 0)), (1, .ref (a 0))]) hx hb dX1_find_28 rfl hl (by decide) rfl (fun ls hl => ?_)
        refine lv_aload_n hx hb dX1_find_29 rfl (lv_at hl 2 rfl) ?_
        refine zrdV (As := []) ⟨hx, hb, hml, hown, hts⟩ (kX0_sheetCount l G a σ ) (cwV 0 hts gX1_find_X0_sheetCount rfl rfl rfl (by decide +kernel) ⟨Nat.le_of_ble_eq_true rfl, Nat.le_of_ble_eq_true rfl⟩) hG (va_recv (q0 := 0) (ci := 0) hG.1 (hP.sub (ws' := wA G a σ) [0, 1, 2, 3, 4, 5, 6] rfl) rfl rfl) ((hP.sub (ws' := wA G a σ) [0, 1, 2, 3, 4, 5, 6] rfl)) rfl rfl hl.1 dX1_find_30 (Nat.le_of_ble_eq_true rfl) ⟨Nat.le_of_ble_eq_true rfl, Nat.le_of_ble_eq_true rfl⟩ ?_
        refine lv_istore_n (lv' := [(3, .int (nI (nS σ))), (2, .int (nI (nE σ))), (0, .ref (b 0)), (1, .ref (a 0))]) hx hb dX1_find_33 rfl hl (by decide) rfl (fun ls hl => ?_)
        refine lv_iconst (v := nI 0) hx hb dX1_find_34 (by decide) ?_
        refine lv_istore (lv' := [(4, .int (nI 0)), (3, .int (nI (nS σ))), (2, .int (nI (nE σ))), (0, .ref (b 0)), (1, .ref (a 0))]) hx hb dX1_find_35 hl (by decide) rfl (fun ls hl => ?_)
        have loop37 : ∀ (n : Nat) (i : Nat) (c : Nat) (hcc : c = fnd σ i) (hi : i ≤ nE σ) (hn : nE σ < i + n) (ls : Array Slot) (hl : lv_has ls 7 [(0, .ref (b 0)), (1, .ref (a 0)), (2, .int (nI (nE σ))), (3, .int (nI c)), (4, .int (nI i))]) (H : Heap) (locs : List Loc) (hP : va_P G.1 vwCl (wA G a σ ++ wB G b (fun k => nI (blk σ i k))) H) (hD : va_D (zA (wA G a σ ++ wB G b f)) (wA G a σ ++ wB G b (fun k => nI (blk σ i k)))) (hS : va_S (zA (wA G a σ ++ wB G b f)) st.heap H locs), W pr l en (zRm 2 44) st mi ar bl me cd H locs 0 0 Q (F0 mi 37 ls []) := by
          intro n
          induction n with
          | zero => intro i c hcc hi hn ls hl H locs hP hD hS; exfalso; omega
          | succ n ih =>
            intro i c hcc hi hn ls hl H locs hP hD hS
            refine lv_iload hx hb dX1_find_37 (lv_at hl 4 rfl) ?_
            refine lv_iload_n hx hb dX1_find_39 rfl (lv_at hl 2 rfl) ?_
            refine lv_icmp_ge (tgt := 113) hx hb dX1_find_40 (by decide) (fun h40 => ?_) (fun h40 => ?_)
            · skip
              have h40 : (nE σ) ≤ i := (nI_leI (by omega) (by omega)).mp h40
              obtain rfl : i = nE σ := (by omega)
              refine lv_iload_n hx hb dX1_find_113 rfl (lv_at hl 3 rfl) ?_
              exact hret _ _ _ _ _ dX1_find_114 hS (hP) (congrArg nI (hcc))
            · skip
              have h40 : ¬ ((nE σ) ≤ i) := fun q => h40 ((nI_leI (by omega) (by omega)).mpr q)
              refine lv_aload_n hx hb dX1_find_43 rfl (lv_at hl 1 rfl) ?_
              refine lv_iload hx hb dX1_find_44 (lv_at hl 4 rfl) ?_
              refine zrdV (As := [.int (nI i)]) ⟨hx, hb, hml, hown, hts⟩ (kX0_isAgreed l G a σ i (hO) (by omega)) (cwV 1 hts gX1_find_X0_isAgreed rfl rfl rfl (by decide +kernel) ⟨Nat.le_of_ble_eq_true rfl, Nat.le_of_ble_eq_true rfl⟩) hG (va_recv (q0 := 0) (ci := 0) hG.1 (hP.sub (ws' := wA G a σ) [0, 1, 2, 3, 4, 5, 6] rfl) rfl rfl) ((hP.sub (ws' := wA G a σ) [0, 1, 2, 3, 4, 5, 6] rfl)) rfl rfl hl.1 dX1_find_46 (Nat.le_of_ble_eq_true rfl) ⟨Nat.le_of_ble_eq_true rfl, Nat.le_of_ble_eq_true rfl⟩ ?_
              refine lv_if_ne (tgt := 55) hx hb dX1_find_49 (by decide) (fun h49 => ?_) (fun h49 => ?_)
              · skip
                have h49 : ¬ (¬ (agn σ i = 1)) := fun q => h49 ((z_b0).mpr q)
                have h49 : agn σ i = 1 := Decidable.of_not_not h49
                refine lv_aload_n hx hb dX1_find_55 rfl (lv_at hl 0 rfl) ?_
                refine lv_aload_n hx hb dX1_find_56 rfl (lv_at hl 1 rfl) ?_
                refine lv_iload hx hb dX1_find_57 (lv_at hl 4 rfl) ?_
                refine zrdV (As := [.int (nI i)]) ⟨hx, hb, hml, hown, hts⟩ (kX0_firstSheet l G a σ i (hO) (by omega)) (cwV 1 hts gX1_find_X0_firstSheet rfl rfl rfl (by decide +kernel) ⟨Nat.le_of_ble_eq_true rfl, Nat.le_of_ble_eq_true rfl⟩) hG (va_recv (q0 := 0) (ci := 0) hG.1 (hP.sub (ws' := wA G a σ) [0, 1, 2, 3, 4, 5, 6] rfl) rfl rfl) ((hP.sub (ws' := wA G a σ) [0, 1, 2, 3, 4, 5, 6] rfl)) rfl rfl hl.1 dX1_find_59 (Nat.le_of_ble_eq_true rfl) ⟨Nat.le_of_ble_eq_true rfl, Nat.le_of_ble_eq_true rfl⟩ ?_
                have hf59_0 := hO.lF (show i < nE σ by omega)
                refine zrdV (As := [.int (nI (fS σ i))]) ⟨hx, hb, hml, hown, hts⟩ (kX1_lowestOf l G b (blk σ i) (fS σ i) (by omega)) (cwV 1 hts gX1_find_X1_lowestOf rfl rfl rfl (by decide +kernel) ⟨Nat.le_of_ble_eq_true rfl, Nat.le_of_ble_eq_true rfl⟩) hG (va_recv (q0 := 0) (ci := 1) hG.1 (hP.sub (ws' := wB G b (fun k => nI (blk σ i k))) [7, 8] rfl) rfl rfl) ((hP.sub (ws' := wB G b (fun k => nI (blk σ i k))) [7, 8] rfl)) rfl rfl hl.1 dX1_find_62 (Nat.le_of_ble_eq_true rfl) ⟨Nat.le_of_ble_eq_true rfl, Nat.le_of_ble_eq_true rfl⟩ ?_
                refine lv_istore (lv' := [(5, .int (nI ((blk σ i) (fS σ i)))), (0, .ref (b 0)), (1, .ref (a 0)), (2, .int (nI (nE σ))), (3, .int (nI c)), (4, .int (nI i))]) hx hb dX1_find_65 hl (by decide) rfl (fun ls hl => ?_)
                refine lv_aload_n hx hb dX1_find_67 rfl (lv_at hl 1 rfl) ?_
                refine lv_aload_n hx hb dX1_find_68 rfl (lv_at hl 2 rfl) ?_
                refine lv_iload hx hb dX1_find_69 (lv_at hl 5 rfl) ?_
                refine zrdV (As := [.int (nI i)]) ⟨hx, hb, hml, hown, hts⟩ (kX0_secondSheet l G a σ i (hO) (by omega)) (cwV 1 hts gX1_find_X0_secondSheet rfl rfl rfl (by decide +kernel) ⟨Nat.le_of_ble_eq_true rfl, Nat.le_of_ble_eq_true rfl⟩) hG (va_recv (q0 := 0) (ci := 0) hG.1 (hP.sub (ws' := wA G a σ) [0, 1, 2, 3, 4, 5, 6] rfl) rfl rfl) ((hP.sub (ws' := wA G a σ) [0, 1, 2, 3, 4, 5, 6] rfl)) rfl rfl hl.1 dX1_find_71 (Nat.le_of_ble_eq_true rfl) ⟨Nat.le_of_ble_eq_true rfl, Nat.le_of_ble_eq_true rfl⟩ ?_
                have hf71_0 := hO.lF (show i < nE σ by omega)
                refine zrdV (As := [.int (nI (sS σ i))]) ⟨hx, hb, hml, hown, hts⟩ (kX1_lowestOf l G b (blk σ i) (sS σ i) (by omega)) (cwV 1 hts gX1_find_X1_lowestOf rfl rfl rfl (by decide +kernel) ⟨Nat.le_of_ble_eq_true rfl, Nat.le_of_ble_eq_true rfl⟩) hG (va_recv (q0 := 0) (ci := 1) hG.1 (hP.sub (ws' := wB G b (fun k => nI (blk σ i k))) [7, 8] rfl) rfl rfl) ((hP.sub (ws' := wB G b (fun k => nI (blk σ i k))) [7, 8] rfl)) rfl rfl hl.1 dX1_find_74 (Nat.le_of_ble_eq_true rfl) ⟨Nat.le_of_ble_eq_true rfl, Nat.le_of_ble_eq_true rfl⟩ ?_
                refine lv_istore (lv' := [(6, .int (nI ((blk σ i) (sS σ i)))), (5, .int (nI ((blk σ i) (fS σ i)))), (0, .ref (b 0)), (1, .ref (a 0)), (2, .int (nI (nE σ))), (3, .int (nI c)), (4, .int (nI i))]) hx hb dX1_find_77 hl (by decide) rfl (fun ls hl => ?_)
                have hb1 := blk_le σ i (fS σ i)
                have hb2 := blk_le σ i (sS σ i)
                refine lv_iload hx hb dX1_find_79 (lv_at hl 1 rfl) ?_
                refine lv_iload hx hb dX1_find_81 (lv_at hl 0 rfl) ?_
                refine lv_icmp_eq (tgt := 107) hx hb dX1_find_83 (by decide) (fun h83 => ?_) (fun h83 => ?_)
                · skip
                  have h83 : ((blk σ i) (fS σ i)) = ((blk σ i) (sS σ i)) := (nI_eq (by omega) (by omega)).mp h83
                  refine lv_iinc (v := nI (i + 1)) (lv' := [(4, .int (nI (i + 1))), (6, .int (nI ((blk σ i) (sS σ i)))), (5, .int (nI ((blk σ i) (fS σ i)))), (0, .ref (b 0)), (1, .ref (a 0)), (2, .int (nI (nE σ))), (3, .int (nI c))]) hx hb dX1_find_107 hl (k := 6) rfl (zinc1 _) (by decide) rfl (fun ls hl => ?_)
                  refine lv_goto (tgt := 37) hx hb dX1_find_110 (by decide) ?_
                  have hbl : blk σ (i + 1) = blk σ i := by rw [blk]; unfold blS; rw [if_neg (fun q => q.2 h83)]
                  have hfn : fnd σ (i + 1) = fnd σ i := by rw [fnd, if_neg (fun q => q.2 h83)]
                  exact ih (i + 1) c (by omega) (by omega) (by omega) _ (lv_sub hl [3, 4, 5, 6, 0] rfl) _ _ (by rw [hbl]; exact hP) (by rw [hbl]; exact hD) hS
                · skip
                  have h83 : ¬ (((blk σ i) (fS σ i)) = ((blk σ i) (sS σ i))) := fun q => h83 ((nI_eq (by omega) (by omega)).mpr q)
                  refine lv_aload_n hx hb dX1_find_86 rfl (lv_at hl 2 rfl) ?_
                  refine lv_iload hx hb dX1_find_87 (lv_at hl 1 rfl) ?_
                  refine lv_iload hx hb dX1_find_89 (lv_at hl 0 rfl) ?_
                  refine va_mmin hx hb (hml.trans hl.1.symm) hown hlk38 hst38 hin38_ hcd38 (Nat.le_of_ble_eq_true rfl) (Nat.le_of_ble_eq_true rfl) (Nat.zero_le _) (Nat.zero_le _) dX1_find_91 ?_
                  refine lv_topi (nm_r (e' := nI (min ((blk σ i) (fS σ i)) ((blk σ i) (sS σ i)))) (z_min (by omega) (by omega)) ?_)
                  refine lv_iload hx hb dX1_find_94 (lv_at hl 1 rfl) ?_
                  refine lv_iload hx hb dX1_find_96 (lv_at hl 0 rfl) ?_
                  refine va_mmax hx hb (hml.trans hl.1.symm) hown hlk44 hst44 hin44_ hcd44 (Nat.le_of_ble_eq_true rfl) (Nat.le_of_ble_eq_true rfl) (Nat.zero_le _) (Nat.zero_le _) dX1_find_98 ?_
                  refine lv_topi (nm_r (e' := nI (max ((blk σ i) (fS σ i)) ((blk σ i) (sS σ i)))) (z_max (by omega) (by omega)) ?_)
                  refine zwrMv (G := G) (w1 := (wA G a σ)) (wc := (wB G b (fun k => nI (blk σ i k)))) (wc' := (wB G b (fun k => nI (rnm (blk σ i) (min ((blk σ i) (fS σ i)) ((blk σ i) (sS σ i))) (max ((blk σ i) (fS σ i)) ((blk σ i) (sS σ i))) k)))) (w2 := []) (va_runV (As := [.int (nI (min ((blk σ i) (fS σ i)) ((blk σ i) (sS σ i)))), .int (nI (max ((blk σ i) (fS σ i)) ((blk σ i) (sS σ i))))]) (rest := []) ⟨hx, hb, hml, hown, hts⟩ (kX1_join l G b (blk σ i) (min ((blk σ i) (fS σ i)) ((blk σ i) (sS σ i))) (max ((blk σ i) (fS σ i)) ((blk σ i) (sS σ i))) (blk_le σ i) (by omega) (zD_any (zD_r hD))) (cwV 2 hts gX1_find_X1_join rfl rfl rfl (by decide +kernel) ⟨Nat.le_of_ble_eq_true rfl, Nat.le_of_ble_eq_true rfl⟩) (zPreV hG (va_recv (q0 := 0) (ci := 1) hG.1 (hP.sub (ws' := wB G b (fun k => nI (blk σ i k))) [7, 8] rfl) rfl rfl) (hP.sub (ws' := wB G b (fun k => nI (blk σ i k))) [7, 8] rfl)) rfl rfl hl.1 rfl (lv_room (Nat.le_of_ble_eq_true rfl)) dX1_find_101 ⟨Nat.le_of_ble_eq_true rfl, Nat.le_of_ble_eq_true rfl⟩) hP hD hS rfl (fun H locs hP hD hS => ?_)
                  have hfp := fnd_pos hO (show i ≤ nE σ by omega)
                  refine lv_iinc (v := nI (c - 1)) (lv' := [(3, .int (nI (c - 1))), (6, .int (nI ((blk σ i) (sS σ i)))), (5, .int (nI ((blk σ i) (fS σ i)))), (0, .ref (b 0)), (1, .ref (a 0)), (2, .int (nI (nE σ))), (4, .int (nI i))]) hx hb dX1_find_104 hl (k := 5) rfl (zdec (by omega)) (by decide) rfl (fun ls hl => ?_)
                  refine lv_iinc (v := nI (i + 1)) (lv' := [(4, .int (nI (i + 1))), (3, .int (nI (c - 1))), (6, .int (nI ((blk σ i) (sS σ i)))), (5, .int (nI ((blk σ i) (fS σ i)))), (0, .ref (b 0)), (1, .ref (a 0)), (2, .int (nI (nE σ)))]) hx hb dX1_find_107 hl (k := 6) rfl (zinc1 _) (by decide) rfl (fun ls hl => ?_)
                  refine lv_goto (tgt := 37) hx hb dX1_find_110 (by decide) ?_
                  have hbl : blk σ (i + 1) = rnm (blk σ i) (min (blk σ i (fS σ i)) (blk σ i (sS σ i))) (max (blk σ i (fS σ i)) (blk σ i (sS σ i))) := by rw [blk]; unfold blS rnm; rw [if_pos ⟨h49, h83⟩]
                  have hfn : fnd σ (i + 1) = fnd σ i - 1 := by rw [fnd, if_pos ⟨h49, h83⟩]
                  exact ih (i + 1) (c - 1) (by omega) (by omega) (by omega) _ (lv_sub hl [4, 5, 6, 1, 0] rfl) _ _ (by rw [hbl]; exact hP) (by rw [hbl]; exact hD) hS
              · skip
                have h49 : ¬ (agn σ i = 1) := (z_b0).mp h49
                refine lv_goto (tgt := 107) hx hb dX1_find_52 (by decide) ?_
                refine lv_iinc (v := nI (i + 1)) (lv' := [(4, .int (nI (i + 1))), (0, .ref (b 0)), (1, .ref (a 0)), (2, .int (nI (nE σ))), (3, .int (nI c))]) hx hb dX1_find_107 hl (k := 4) rfl (zinc1 _) (by decide) rfl (fun ls hl => ?_)
                refine lv_goto (tgt := 37) hx hb dX1_find_110 (by decide) ?_
                have hbl : blk σ (i + 1) = blk σ i := by rw [blk]; unfold blS; rw [if_neg (fun q => h49 q.1)]
                have hfn : fnd σ (i + 1) = fnd σ i := by rw [fnd, if_neg (fun q => h49 q.1)]
                exact ih (i + 1) c (by omega) (by omega) (by omega) _ (lv_sub hl [1, 2, 3, 4, 0] rfl) _ _ (by rw [hbl]; exact hP) (by rw [hbl]; exact hD) hS
        have hP : va_P G.1 vwCl (wA G a σ ++ wB G b (fun k => nI (blk σ 0 k))) H := zP_ext (w1 := wA G a σ ++ [(b 0, .inr (1, [.ref (b 1)]))]) (w2 := []) (fun j hj => hg j (by omega)) hP
        exact loop37 (nE σ + 1) 0 (nS σ) (rfl) (by omega) (by omega) _ (lv_sub hl [3, 4, 2, 1, 0] rfl) _ _ (hP) (zD_map (w := wA G a σ ++ wB G b g) rfl hD) hS
      · skip
        have h8 : ¬ (36 ≤ i) := fun q => h8 ((nI_leI (by omega) (by omega)).mpr q)
        refine lv_aload_n hx hb dX1_find_11 rfl (lv_at hl 0 rfl) ?_
        refine va_get (D := G.1) (ci := 1) (v := .ref (b 1)) (C := RX1) (T := TX1) (N := 1) hx hb hts hinX1 hown hG.1 hP 7 rfl rfl 0 (by decide) hf9 (fun _ h9 => h9) rfl dX1_find_12 ?_
        refine lv_iload_n hx hb dX1_find_15 rfl (lv_at hl 2 rfl) ?_
        refine lv_iload_n hx hb dX1_find_16 rfl (lv_at hl 2 rfl) ?_
        refine va_iast hx hb hG.1 hP hD hS 8 0 rfl rfl (vp_in_nI (n := i) (N := 36) (by omega) (by omega)) dX1_find_17 (fun H locs hP hD hS => ?_)
        rw [nI_clamp (show i < 2 ^ 31 by omega)] at hP hD
        have hP : va_P G.1 vwCl [(a 0, .inr (0, [.ref (a 1), .ref (a 2), .ref (a 3), .ref (a 4), .ref (a 5), .ref (a 6), .int (nI (σ 0)), .int (nI (σ 1)), .int (nI (σ 2)), .int (nI (σ 3))])), (a 1, .inl (G.2.1, 1440, .inl (fun i => nI (sgF σ i)))), (a 2, .inl (G.2.1, 360, .inl (fun i => nI (mnF σ i)))), (a 3, .inl (G.2.1, 36, .inl (fun k => nI (rvn σ k)))), (a 4, .inl (G.2.1, 36, .inl (fun k => pbF σ k))), (a 5, .inl (G.2.1, 36, .inl (fun k => nI (scn σ k)))), (a 6, .inl (G.2.1, 60, .inl (fun e => nI (agF σ e)))), (b 0, .inr (1, [.ref (b 1)])), (b 1, .inl (G.2.1, 36, .inl (upd g i (nI i))))] H := hP
        have hD : va_D (zA (wA G a σ ++ wB G b f)) [(a 0, .inr (0, [.ref (a 1), .ref (a 2), .ref (a 3), .ref (a 4), .ref (a 5), .ref (a 6), .int (nI (σ 0)), .int (nI (σ 1)), .int (nI (σ 2)), .int (nI (σ 3))])), (a 1, .inl (G.2.1, 1440, .inl (fun i => nI (sgF σ i)))), (a 2, .inl (G.2.1, 360, .inl (fun i => nI (mnF σ i)))), (a 3, .inl (G.2.1, 36, .inl (fun k => nI (rvn σ k)))), (a 4, .inl (G.2.1, 36, .inl (fun k => pbF σ k))), (a 5, .inl (G.2.1, 36, .inl (fun k => nI (scn σ k)))), (a 6, .inl (G.2.1, 60, .inl (fun e => nI (agF σ e)))), (b 0, .inr (1, [.ref (b 1)])), (b 1, .inl (G.2.1, 36, .inl (upd g i (nI i))))] := hD
        refine lv_iinc (v := nI (i + 1)) (lv' := [(2, .int (nI (i + 1))), (0, .ref (b 0)), (1, .ref (a 0))]) hx hb dX1_find_18 hl (k := 2) rfl (zinc1 _) (by decide) rfl (fun ls hl => ?_)
        refine lv_goto (tgt := 2) hx hb dX1_find_21 (by decide) ?_
        exact ih (i + 1) (upd g i (nI i)) (fun j hj => by unfold upd; split; (rename_i q; rw [q]); exact hg j (by omega)) (by omega) (by omega) _ (lv_sub hl [1, 2, 0] rfl) _ _ (hP) (hD) hS
  exact loop2 37 0 f (fun j hj => absurd hj (Nat.not_lt_zero j)) (by omega) (by omega) _ (lv_sub hl [1, 2, 0] rfl) _ _ (hP) (hD) hS