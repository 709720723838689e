theorem z_nar {c : Nat} (h : c < 65536) : vp_nar .char (nI c) = nI c := by
  unfold vp_nar
  rw [(pk_charN h).1]
/-- what is held while the signs of a text are taken: side, position, sign, how many, the state -/
def tkS (x : Nat → Nat) (k i : Nat) (r : Nat × Nat × Nat × Nat × (Nat → Nat)) : Nat × Nat × Nat × Nat × (Nat → Nat) :=
  if stt x i = 0 then (sdN (x i), r.2.1, 10, r.2.2.2.1, r.2.2.2.2)
  else if stt x i = 1 then (r.1, x i - 48, r.2.2.1, r.2.2.2.1, r.2.2.2.2)
  else if stt x i = 3 then (r.1, r.2.1, x i - 48, r.2.2.2.1, r.2.2.2.2)
  else if stt x i = 4 then (r.1, r.2.1, r.2.2.1, r.2.2.2.1 + 1, su r.2.2.2.2 (64 + 53 * k + (10 * r.1 + r.2.1)) r.2.2.1)
  else r
def tkR (x : Nat → Nat) (k : Nat) (σ : Nat → Nat) : Nat → Nat × Nat × Nat × Nat × (Nat → Nat)
  | 0 => (0, 0, 10, 0, σ)
  | i + 1 => tkS x k i (tkR x k σ i)
set_option maxHeartbeats 4000000 in
set_option maxRecDepth 100000 in
theorem kX3_appendCharacter (l : Launch) (G : zG) (t : Nat → Nat) (x : Nat → Nat) (n : Nat) (c : Nat) (hc : c < 65536) (hn : n < 100) (hd : va_D (fun _ => True) (wTx G t x n)) : Met l yX3_appendCharacter wsX3_appendCharacter (zRm 0 0) (zPc G [.ref (t 0), .int (nI c)] (va_P G.1 vwCl (wTx G t x n))) (zQ (zA (wTx G t x n)) none (va_P G.1 vwCl (wTx G t (su x n c) (n + 1)))) 0 0 (zA (wTx G t x n)) := by
  refine zmkWv (w := (wTx G t x n)) hd (cc := cX3_appendCharacter) (maxL := 2) (by decide) rfl (Nat.le_of_ble_eq_true rfl) ?_
  intro pr en st mi ar bl me cd ls Q hx hb hml hown hts hG hP hl hD hS hret
  have hown : st.vm.findClass RX3 = some mi.cls := hown
  have hl : lv_has ls 2 [(0, .ref (t 0)), (1, .int (nI c))] := hl
  have hP : va_P G.1 vwCl (wTx G t x n) st.heap := hP
  have hD : va_D (zA (wTx G t x n)) (wTx G t x n) := hD
  have hinX3 : ∀ w ∈ wsX30, w ∈ wsX3_appendCharacter := by decide +kernel
  have hf15 := hts (.fieldLink RX3 15 "MapSheets$SignText" "length" "I") (by decide +kernel)
  have hf9 := hts (.fieldLink RX3 9 "MapSheets$SignText" "characters" "[C") (by decide +kernel)
  refine lv_aload_n hx hb dX3_appendCharacter_0 rfl (lv_at hl 0 rfl) ?_
  refine va_get (D := G.1) (ci := 3) (v := .int (nI n)) (C := RX3) (T := TX3) (N := 2) hx hb hts hinX3 hown hG.1 hP 0 rfl rfl 1 (by decide) hf15 (fun _ h9 => h9) rfl dX3_appendCharacter_1 ?_
  refine lv_if_lt (tgt := 39) hx hb dX3_appendCharacter_4 (by decide) (fun h4 => ?_) (fun h4 => ?_)
  · skip
    have h4 : False := (z_lt0 (by omega)).mp h4
    exfalso; omega
  · skip
    have h4 : ¬ (False) := fun q => h4 ((z_lt0 (by omega)).mpr q)
    refine lv_aload_n hx hb dX3_appendCharacter_7 rfl (lv_at hl 0 rfl) ?_
    refine va_get (D := G.1) (ci := 3) (v := .int (nI n)) (C := RX3) (T := TX3) (N := 2) hx hb hts hinX3 hown hG.1 hP 0 rfl rfl 1 (by decide) hf15 (fun _ h9 => h9) rfl dX3_appendCharacter_8 ?_
    refine lv_aload_n hx hb dX3_appendCharacter_11 rfl (lv_at hl 0 rfl) ?_
    refine va_get (D := G.1) (ci := 3) (v := .ref (t 1)) (C := RX3) (T := TX3) (N := 2) hx hb hts hinX3 hown hG.1 hP 0 rfl rfl 0 (by decide) hf9 (fun _ h9 => h9) rfl dX3_appendCharacter_12 ?_
    refine va_alen (v := nI 100) hx hb hG.1 hP 1 1 rfl rfl rfl dX3_appendCharacter_15 ?_
    refine lv_icmp_ge (tgt := 39) hx hb dX3_appendCharacter_16 (by decide) (fun h16 => ?_) (fun h16 => ?_)
    · skip
      have h16 : 100 ≤ n := (nI_leI (by omega) (by omega)).mp h16
      exfalso; omega
    · skip
      have h16 : ¬ (100 ≤ n) := fun q => h16 ((nI_leI (by omega) (by omega)).mpr q)
      refine lv_aload_n hx hb dX3_appendCharacter_19 rfl (lv_at hl 0 rfl) ?_
      refine va_get (D := G.1) (ci := 3) (v := .ref (t 1)) (C := RX3) (T := TX3) (N := 2) hx hb hts hinX3 hown hG.1 hP 0 rfl rfl 0 (by decide) hf9 (fun _ h9 => h9) rfl dX3_appendCharacter_20 ?_
      refine lv_aload_n hx hb dX3_appendCharacter_23 rfl (lv_at hl 0 rfl) ?_
      refine va_get (D := G.1) (ci := 3) (v := .int (nI n)) (C := RX3) (T := TX3) (N := 2) hx hb hts hinX3 hown hG.1 hP 0 rfl rfl 1 (by decide) hf15 (fun _ h9 => h9) rfl dX3_appendCharacter_24 ?_
      refine lv_iload_n hx hb dX3_appendCharacter_27 rfl (lv_at hl 1 rfl) ?_
      refine va_cast hx hb hG.1 hP hD hS 1 1 rfl rfl (vp_in_nI (n := n) (N := 100) (by omega) (by omega)) dX3_appendCharacter_28 (fun H locs hP hD hS => ?_)
      rw [nI_clamp (show n < 2 ^ 31 by omega), z_nar (show c < 65536 by omega)] at hP hD
      have hP : va_P G.1 vwCl [(t 0, .inr (3, [.ref (t 1), .int (nI n)])), (t 1, .inl (G.2.2.1, 100, .inl (upd (fun i => nI (x i)) n (nI c))))] H := hP
      have hD : va_D (zA (wTx G t x n)) [(t 0, .inr (3, [.ref (t 1), .int (nI n)])), (t 1, .inl (G.2.2.1, 100, .inl (upd (fun i => nI (x i)) n (nI c))))] := hD
      refine lv_aload_n hx hb dX3_appendCharacter_29 rfl (lv_at hl 0 rfl) ?_
      refine lv_dup hx hb dX3_appendCharacter_30 rfl ?_
      refine va_get (D := G.1) (ci := 3) (v := .int (nI n)) (C := RX3) (T := TX3) (N := 2) hx hb hts hinX3 hown hG.1 hP 0 rfl rfl 1 (by decide) hf15 (fun _ h9 => h9) rfl dX3_appendCharacter_31 ?_
      refine lv_iconst (v := nI 1) hx hb dX3_appendCharacter_34 (by decide) ?_
      refine lv_iadd hx hb dX3_appendCharacter_35 ?_
      refine lv_topi (nm_r (e' := nI (n + 1)) (nI_add _ _) ?_)
      refine va_put (D := G.1) (ci := 3) (v := .int (nI (n + 1))) (ty := .int) (C := RX3) (T := TX3) (N := 2) hx hb hts hinX3 tyX3 tyX3_ok nmX3 hown hG.1 hP hD hS 0 rfl rfl 1 (by decide) hf15 (fun _ h9 => h9) rfl (by decide +kernel) rfl rfl (Nat.le_of_ble_eq_true rfl) dX3_appendCharacter_36 (fun H locs hP hD hS => ?_)
      have hP : va_P G.1 vwCl [(t 0, .inr (3, [.ref (t 1), .int (nI (n + 1))])), (t 1, .inl (G.2.2.1, 100, .inl (upd (fun i => nI (x i)) n (nI c))))] H := hP
      have hD : va_D (zA (wTx G t x n)) [(t 0, .inr (3, [.ref (t 1), .int (nI (n + 1))])), (t 1, .inl (G.2.2.1, 100, .inl (upd (fun i => nI (x i)) n (nI c))))] := hD
      exact hret _ _ _ _ dX3_appendCharacter_39 hS (by unfold wTx; rw [← upd_nI]; exact hP)
set_option maxHeartbeats 4000000 in
set_option maxRecDepth 100000 in
theorem kX3_removeAll (l : Launch) (G : zG) (t : Nat → Nat) (x : Nat → Nat) (n : Nat)  (hd : va_D (fun _ => True) (wTx G t x n)) : Met l yX3_removeAll wsX3_removeAll (zRm 0 0) (zPc G [.ref (t 0)] (va_P G.1 vwCl (wTx G t x n))) (zQ (zA (wTx G t x n)) none (va_P G.1 vwCl (wTx G t x 0))) 0 0 (zA (wTx G t x n)) := by
  refine zmkWv (w := (wTx G t x n)) hd (cc := cX3_removeAll) (maxL := 1) (by decide) rfl (Nat.le_of_ble_eq_true rfl) ?_
  intro pr en st mi ar bl me cd ls Q hx hb hml hown hts hG hP hl hD hS hret
  have hown : st.vm.findClass RX3 = some mi.cls := hown
  have hl : lv_has ls 1 [(0, .ref (t 0))] := hl
  have hP : va_P G.1 vwCl (wTx G t x n) st.heap := hP
  have hD : va_D (zA (wTx G t x n)) (wTx G t x n) := hD
  have hinX3 : ∀ w ∈ wsX30, w ∈ wsX3_removeAll := by decide +kernel
  have hf15 := hts (.fieldLink RX3 15 "MapSheets$SignText" "length" "I") (by decide +kernel)
  refine lv_aload_n hx hb dX3_removeAll_0 rfl (lv_at hl 0 rfl) ?_
  refine lv_iconst (v := nI 0) hx hb dX3_removeAll_1 (by decide) ?_
  refine va_put (D := G.1) (ci := 3) (v := .int (nI 0)) (ty := .int) (C := RX3) (T := TX3) (N := 2) hx hb hts hinX3 tyX3 tyX3_ok nmX3 hown hG.1 hP hD hS 0 rfl rfl 1 (by decide) hf15 (fun _ h9 => h9) rfl (by decide +kernel) rfl rfl (Nat.le_of_ble_eq_true rfl) dX3_removeAll_2 (fun H locs hP hD hS => ?_)
  have hP : va_P G.1 vwCl [(t 0, .inr (3, [.ref (t 1), .int (nI 0)])), (t 1, .inl (G.2.2.1, 100, .inl (fun i => nI (x i))))] H := hP
  have hD : va_D (zA (wTx G t x n)) [(t 0, .inr (3, [.ref (t 1), .int (nI 0)])), (t 1, .inl (G.2.2.1, 100, .inl (fun i => nI (x i))))] := hD
  exact hret _ _ _ _ dX3_removeAll_5 hS (hP)
set_option maxHeartbeats 4000000 in
set_option maxRecDepth 100000 in
theorem kX3_takeInto (l : Launch) (G : zG) (a : Nat → Nat) (σ : Nat → Nat) (t : Nat → Nat) (x : Nat → Nat) (n : Nat) {N : Nat} (k : Nat) (hO : Ok N σ) (hk : k < 36) (hn : n ≤ 100) (htx : ∀ i, i < 100 → x i < 65536) (hnf : ∀ j, j < n → stt x (j + 1) ≠ 5) (hd : va_D (fun _ => True) (wA G a σ ++ wTx G t x n)) : Met l yX3_takeInto wsX3_takeInto (zRm 3 63) (zPc G [.ref (t 0), .ref (a 0), .int (nI k)] (va_P G.1 vwCl (wA G a σ ++ wTx G t x n))) (zQ (zA (wA G a σ ++ wTx G t x n)) (some (.int (nI (tkR x k σ n).2.2.2.1))) (va_P G.1 vwCl (wA G a (tkR x k σ n).2.2.2.2 ++ wTx G t x n))) 0 0 (zA (wA G a σ ++ wTx G t x n)) := by
  refine zmkWi (w := (wA G a σ ++ wTx G t x n)) hd (cc := cX3_takeInto) (maxL := 10) (by decide) rfl (Nat.le_of_ble_eq_true rfl) ?_
  intro pr en st mi ar bl me cd ls Q hx hb hml hown hts hG hP hl hD hS hret
  have hown : st.vm.findClass RX3 = some mi.cls := hown
  have hl : lv_has ls 10 [(0, .ref (t 0)), (1, .ref (a 0)), (2, .int (nI k))] := hl
  have hP : va_P G.1 vwCl (wA G a σ ++ wTx G t x n) st.heap := hP
  have hD : va_D (zA (wA G a σ ++ wTx G t x n)) (wA G a σ ++ wTx G t x n) := hD
  have hinX3 : ∀ w ∈ wsX30, w ∈ wsX3_takeInto := by decide +kernel
  have hf15 := hts (.fieldLink RX3 15 "MapSheets$SignText" "length" "I") (by decide +kernel)
  have hf9 := hts (.fieldLink RX3 9 "MapSheets$SignText" "characters" "[C") (by decide +kernel)
  refine lv_iconst (v := nI 0) hx hb dX3_takeInto_0 (by decide) ?_
  refine lv_istore_n (lv' := [(3, .int (nI 0)), (0, .ref (t 0)), (1, .ref (a 0)), (2, .int (nI k))]) hx hb dX3_takeInto_1 rfl hl (by decide) rfl (fun ls hl => ?_)
  refine lv_iconst (v := nI 0) hx hb dX3_takeInto_2 (by decide) ?_
  refine lv_istore (lv' := [(4, .int (nI 0)), (3, .int (nI 0)), (0, .ref (t 0)), (1, .ref (a 0)), (2, .int (nI k))]) hx hb dX3_takeInto_3 hl (by decide) rfl (fun ls hl => ?_)
  refine lv_iconst (v := nI 0) hx hb dX3_takeInto_5 (by decide) ?_
  refine lv_istore (lv' := [(5, .int (nI 0)), (4, .int (nI 0)), (3, .int (nI 0)), (0, .ref (t 0)), (1, .ref (a 0)), (2, .int (nI k))]) hx hb dX3_takeInto_6 hl (by decide) rfl (fun ls hl => ?_)
  refine lv_bipush (v := nI 10) hx hb dX3_takeInto_8 (by decide) ?_
  refine lv_istore (lv' := [(6, .int (nI 10)), (5, .int (nI 0)), (4, .int (nI 0)), (3, .int (nI 0)), (0, .ref (t 0)), (1, .ref (a 0)), (2, .int (nI k))]) hx hb dX3_takeInto_10 hl (by decide) rfl (fun ls hl => ?_)
  refine lv_iconst (v := nI 0) hx hb dX3_takeInto_12 (by decide) ?_
  refine lv_istore (lv' := [(7, .int (nI 0)), (6, .int (nI 10)), (5, .int (nI 0)), (4, .int (nI 0)), (3, .int (nI 0)), (0, .ref (t 0)), (1, .ref (a 0)), (2, .int (nI k))]) hx hb dX3_takeInto_13 hl (by decide) rfl (fun ls hl => ?_)
  refine lv_iconst (v := nI 0) hx hb dX3_takeInto_15 (by decide) ?_
  refine lv_istore (lv' := [(8, .int (nI 0)), (7, .int (nI 0)), (6, .int (nI 10)), (5, .int (nI 0)), (4, .int (nI 0)), (3, .int (nI 0)), (0, .ref (t 0)), (1, .ref (a 0)), (2, .int (nI k))]) hx hb dX3_takeInto_16 hl (by decide) rfl (fun ls hl => ?_)
  have loop18 : ∀ (fu : Nat) (i : Nat) (sd : Nat) (ps : Nat) (sg : Nat) (tk : Nat) (τ : Nat → Nat) (hR : (sd, ps, sg, tk, τ) = tkR x k σ i) (hsd : sd < 4) (hps : ps < 10) (hsg : sg ≤ 10) (hOτ : Ok N τ) (hs5 : stt x i ≤ 4) (hi : i ≤ n) (hm : n < i + fu) (ls : Array Slot) (hl : lv_has ls 10 [(0, .ref (t 0)), (1, .ref (a 0)), (2, .int (nI k)), (3, .int (nI (stt x i))), (4, .int (nI sd)), (5, .int (nI ps)), (6, .int (nI sg)), (7, .int (nI tk)), (8, .int (nI i))]) (H : Heap) (locs : List Loc) (hP : va_P G.1 vwCl (wA G a τ ++ wTx G t x n) H) (hD : va_D (zA (wA G a σ ++ wTx G t x n)) (wA G a τ ++ wTx G t x n)) (hS : va_S (zA (wA G a σ ++ wTx G t x n)) st.heap H locs), W pr l en (zRm 3 63) st mi ar bl me cd H locs 0 0 Q (F0 mi 18 ls []) := by
    intro fu
    induction fu with
    | zero => intro i sd ps sg tk τ hR hsd hps hsg hOτ hs5 hi hm ls hl H locs hP hD hS; exfalso; omega
    | succ fu ih =>
      intro i sd ps sg tk τ hR hsd hps hsg hOτ hs5 hi hm ls hl H locs hP hD hS
      refine lv_iload hx hb dX3_takeInto_18 (lv_at hl 8 rfl) ?_
      refine lv_aload_n hx hb dX3_takeInto_20 rfl (lv_at hl 0 rfl) ?_
      refine va_get (D := G.1) (ci := 3) (v := .int (nI n)) (C := RX3) (T := TX3) (N := 2) hx hb hts hinX3 hown hG.1 hP 7 rfl rfl 1 (by decide) hf15 (fun _ h9 => h9) rfl dX3_takeInto_21 ?_
      refine lv_icmp_ge (tgt := 127) hx hb dX3_takeInto_24 (by decide) (fun h24 => ?_) (fun h24 => ?_)
      · skip
        have h24 : n ≤ i := (nI_leI (by omega) (by omega)).mp h24
        obtain rfl : i = n := (by omega)
        refine lv_iload hx hb dX3_takeInto_127 (lv_at hl 7 rfl) ?_
        exact hret _ _ _ _ _ dX3_takeInto_129 hS (by rw [← hR]; exact hP) (congrArg nI (by rw [← hR]))
      · skip
        have h24 : ¬ (n ≤ i) := fun q => h24 ((nI_leI (by omega) (by omega)).mpr q)
        refine lv_iload hx hb dX3_takeInto_27 (lv_at hl 8 rfl) ?_
        refine lv_aload_n hx hb dX3_takeInto_29 rfl (lv_at hl 0 rfl) ?_
        refine va_get (D := G.1) (ci := 3) (v := .ref (t 1)) (C := RX3) (T := TX3) (N := 2) hx hb hts hinX3 hown hG.1 hP 7 rfl rfl 0 (by decide) hf9 (fun _ h9 => h9) rfl dX3_takeInto_30 ?_
        refine va_alen (v := nI 100) hx hb hG.1 hP 8 1 rfl rfl rfl dX3_takeInto_33 ?_
        refine lv_icmp_ge (tgt := 127) hx hb dX3_takeInto_34 (by decide) (fun h34 => ?_) (fun h34 => ?_)
        · skip
          have h34 : 100 ≤ i := (nI_leI (by omega) (by omega)).mp h34
          exfalso; omega
        · skip
          have h34 : ¬ (100 ≤ i) := fun q => h34 ((nI_leI (by omega) (by omega)).mpr q)
          refine lv_aload_n hx hb dX3_takeInto_37 rfl (lv_at hl 0 rfl) ?_
          refine va_get (D := G.1) (ci := 3) (v := .ref (t 1)) (C := RX3) (T := TX3) (N := 2) hx hb hts hinX3 hown hG.1 hP 7 rfl rfl 0 (by decide) hf9 (fun _ h9 => h9) rfl dX3_takeInto_38 ?_
          refine lv_iload hx hb dX3_takeInto_41 (lv_at hl 8 rfl) ?_
          have hxi := htx i (by omega)
          refine va_cald hx hb hG.1 hP 8 1 rfl rfl (vp_in_nI (n := i) (N := 100) (by omega) (by omega)) dX3_takeInto_43 ?_
          refine lv_topi (nm_r (e' := nI (x i)) (by rw [nI_clamp (by omega)]) ?_)
          refine lv_istore (lv' := [(9, .int (nI (x i))), (0, .ref (t 0)), (1, .ref (a 0)), (2, .int (nI k)), (3, .int (nI (stt x i))), (4, .int (nI sd)), (5, .int (nI ps)), (6, .int (nI sg)), (7, .int (nI tk)), (8, .int (nI i))]) hx hb dX3_takeInto_44 hl (by decide) rfl (fun ls hl => ?_)
          refine lv_iload_n hx hb dX3_takeInto_46 rfl (lv_at hl 4 rfl) ?_
          refine lv_if_ne (tgt := 64) hx hb dX3_takeInto_47 (by decide) (fun h47 => ?_) (fun h47 => ?_)
          · skip
            have h47 : ¬ ((stt x i) = 0) := fun q => h47 ((z_eq0 (by omega)).mpr q)
            have h47 : 0 < (stt x i) := Nat.pos_of_ne_zero h47
            refine lv_iload_n hx hb dX3_takeInto_64 rfl (lv_at hl 4 rfl) ?_
            refine lv_iconst (v := nI 1) hx hb dX3_takeInto_65 (by decide) ?_
            refine lv_icmp_ne (tgt := 79) hx hb dX3_takeInto_66 (by decide) (fun h66 => ?_) (fun h66 => ?_)
            · skip
              have h66 : ¬ ((stt x i) = 1) := fun q => h66 ((nI_eq (by omega) (by omega)).mpr q)
              refine lv_iload_n hx hb dX3_takeInto_79 rfl (lv_at hl 4 rfl) ?_
              refine lv_iconst (v := nI 3) hx hb dX3_takeInto_80 (by decide) ?_
              refine lv_icmp_ne (tgt := 94) hx hb dX3_takeInto_81 (by decide) (fun h81 => ?_) (fun h81 => ?_)
              · skip
                have h81 : ¬ ((stt x i) = 3) := fun q => h81 ((nI_eq (by omega) (by omega)).mpr q)
                refine lv_iload_n hx hb dX3_takeInto_94 rfl (lv_at hl 4 rfl) ?_
                refine lv_iconst (v := nI 4) hx hb dX3_takeInto_95 (by decide) ?_
                refine lv_icmp_ne (tgt := 114) hx hb dX3_takeInto_96 (by decide) (fun h96 => ?_) (fun h96 => ?_)
                · skip
                  have h96 : ¬ ((stt x i) = 4) := fun q => h96 ((nI_eq (by omega) (by omega)).mpr q)
                  refine lv_iload_n hx hb dX3_takeInto_114 rfl (lv_at hl 4 rfl) ?_
                  refine lv_iload hx hb dX3_takeInto_115 (lv_at hl 0 rfl) ?_
                  refine zrdS (As := [.int (nI (stt x i)), .int (nI (x i))]) ⟨hx, hb, hml, hown, hts⟩ (kX3_expectedAfter l G  (stt x i) (x i) (by omega) (by omega)) (va_cwS 2 hts gX3_takeInto_X3_expectedAfter rfl rfl rfl (by decide +kernel) ⟨Nat.le_of_ble_eq_true rfl, Nat.le_of_ble_eq_true rfl⟩) hG (trivial) rfl rfl hl.1 dX3_takeInto_117 (Nat.le_of_ble_eq_true rfl) ⟨Nat.le_of_ble_eq_true rfl, Nat.le_of_ble_eq_true rfl⟩ ?_
                  have hf117_0 := xA_le ((stt x i)) ((x i))
                  refine lv_istore_n (lv' := [(3, .int (nI (xA (stt x i) (x i)))), (9, .int (nI (x i))), (0, .ref (t 0)), (1, .ref (a 0)), (2, .int (nI k)), (4, .int (nI sd)), (5, .int (nI ps)), (6, .int (nI sg)), (7, .int (nI tk)), (8, .int (nI i))]) hx hb dX3_takeInto_120 rfl hl (by decide) rfl (fun ls hl => ?_)
                  refine lv_iinc (v := nI (i + 1)) (lv' := [(8, .int (nI (i + 1))), (3, .int (nI (xA (stt x i) (x i)))), (9, .int (nI (x i))), (0, .ref (t 0)), (1, .ref (a 0)), (2, .int (nI k)), (4, .int (nI sd)), (5, .int (nI ps)), (6, .int (nI sg)), (7, .int (nI tk))]) hx hb dX3_takeInto_121 hl (k := 9) rfl (zinc1 _) (by decide) rfl (fun ls hl => ?_)
                  refine lv_goto (tgt := 18) hx hb dX3_takeInto_124 (by decide) ?_
                  exact ih (i + 1) sd ps sg tk τ (by rw [tkR, ← hR]; unfold tkS; dsimp only; rw [if_neg (by omega), if_neg (by omega), if_neg (by omega), if_neg (by omega)]) (by omega) (by omega) (by omega) (hOτ) (by have := hnf i (by omega); have := stt_le x (i + 1); omega) (by omega) (by omega) _ (lv_sub hl [3, 4, 5, 1, 6, 7, 8, 9, 0] rfl) _ _ (hP) (hD) hS
                · skip
                  have h96 : (stt x i) = 4 := (nI_eq (by omega) (by omega)).mp h96
                  refine lv_aload_n hx hb dX3_takeInto_99 rfl (lv_at hl 2 rfl) ?_
                  refine lv_iload_n hx hb dX3_takeInto_100 rfl (lv_at hl 3 rfl) ?_
                  refine lv_iload hx hb dX3_takeInto_101 (lv_at hl 5 rfl) ?_
                  refine lv_iload hx hb dX3_takeInto_103 (lv_at hl 6 rfl) ?_
                  refine lv_iload hx hb dX3_takeInto_105 (lv_at hl 7 rfl) ?_
                  refine zwrM (G := G) (w1 := []) (wc := (wA G a τ)) (wc' := (wA G a (su τ (64 + 53 * k + (10 * sd + ps)) sg))) (w2 := (wTx G t x n)) (va_runV (As := [.int (nI k), .int (nI sd), .int (nI ps), .int (nI sg)]) (rest := []) ⟨hx, hb, hml, hown, hts⟩ (kX0_putSign l G a τ k sd ps sg (by omega) (by omega) (by omega) (zD_any (zD_l hD))) (cwV 4 hts gX3_takeInto_X0_putSign rfl rfl rfl (by decide +kernel) ⟨Nat.le_of_ble_eq_true rfl, Nat.le_of_ble_eq_true rfl⟩) (zPreV hG (va_recv (q0 := 0) (ci := 0) hG.1 (zP_l hP) rfl rfl) ((zP_l hP))) rfl rfl hl.1 rfl (lv_room (Nat.le_of_ble_eq_true rfl)) dX3_takeInto_107 ⟨Nat.le_of_ble_eq_true rfl, Nat.le_of_ble_eq_true rfl⟩) hP hD hS rfl (fun H locs hP hD hS => ?_)
                  have hP : va_P G.1 vwCl (wA G a (su τ (64 + 53 * k + (10 * sd + ps)) sg) ++ wTx G t x n) H := hP
                  have hD : va_D (zA (wA G a σ ++ wTx G t x n)) (wA G a (su τ (64 + 53 * k + (10 * sd + ps)) sg) ++ wTx G t x n) := hD
                  refine lv_pop hx hb dX3_takeInto_110 rfl ?_
                  refine lv_iinc (v := nI (tk + 1)) (lv' := [(7, .int (nI (tk + 1))), (9, .int (nI (x i))), (0, .ref (t 0)), (1, .ref (a 0)), (2, .int (nI k)), (3, .int (nI (stt x i))), (4, .int (nI sd)), (5, .int (nI ps)), (6, .int (nI sg)), (8, .int (nI i))]) hx hb dX3_takeInto_111 hl (k := 8) rfl (zinc1 _) (by decide) rfl (fun ls hl => ?_)
                  refine lv_iload_n hx hb dX3_takeInto_114 rfl (lv_at hl 5 rfl) ?_
                  refine lv_iload hx hb dX3_takeInto_115 (lv_at hl 1 rfl) ?_
                  refine zrdS (As := [.int (nI (stt x i)), .int (nI (x i))]) ⟨hx, hb, hml, hown, hts⟩ (kX3_expectedAfter l G  (stt x i) (x i) (by omega) (by omega)) (va_cwS 2 hts gX3_takeInto_X3_expectedAfter rfl rfl rfl (by decide +kernel) ⟨Nat.le_of_ble_eq_true rfl, Nat.le_of_ble_eq_true rfl⟩) hG (trivial) rfl rfl hl.1 dX3_takeInto_117 (Nat.le_of_ble_eq_true rfl) ⟨Nat.le_of_ble_eq_true rfl, Nat.le_of_ble_eq_true rfl⟩ ?_
                  have hf117_0 := xA_le ((stt x i)) ((x i))
                  refine lv_istore_n (lv' := [(3, .int (nI (xA (stt x i) (x i)))), (7, .int (nI (tk + 1))), (9, .int (nI (x i))), (0, .ref (t 0)), (1, .ref (a 0)), (2, .int (nI k)), (4, .int (nI sd)), (5, .int (nI ps)), (6, .int (nI sg)), (8, .int (nI i))]) hx hb dX3_takeInto_120 rfl hl (by decide) rfl (fun ls hl => ?_)
                  refine lv_iinc (v := nI (i + 1)) (lv' := [(8, .int (nI (i + 1))), (3, .int (nI (xA (stt x i) (x i)))), (7, .int (nI (tk + 1))), (9, .int (nI (x i))), (0, .ref (t 0)), (1, .ref (a 0)), (2, .int (nI k)), (4, .int (nI sd)), (5, .int (nI ps)), (6, .int (nI sg))]) hx hb dX3_takeInto_121 hl (k := 9) rfl (zinc1 _) (by decide) rfl (fun ls hl => ?_)
                  refine lv_goto (tgt := 18) hx hb dX3_takeInto_124 (by decide) ?_
                  exact ih (i + 1) sd ps sg (tk + 1) (su τ (64 + 53 * k + (10 * sd + ps)) sg) (by rw [tkR, ← hR]; unfold tkS; dsimp only; rw [if_neg (by omega), if_neg (by omega), if_neg (by omega), if_pos h96]) (by omega) (by omega) (by omega) (hOτ.su_sg (by omega) (by omega)) (by have := hnf i (by omega); have := stt_le x (i + 1); omega) (by omega) (by omega) _ (lv_sub hl [4, 5, 6, 1, 7, 8, 9, 2, 0] rfl) _ _ (hP) (hD) hS
              · skip
                have h81 : (stt x i) = 3 := (nI_eq (by omega) (by omega)).mp h81
                have hdg : 48 ≤ x i ∧ x i ≤ 57 := Decidable.byContradiction fun z => hnf i (by omega) (by rw [stt, h81]; unfold xA; rw [if_neg (by omega), if_neg (by omega), if_neg (by omega), if_pos rfl, if_neg z])
                refine lv_iload hx hb dX3_takeInto_84 (lv_at hl 0 rfl) ?_
                refine lv_bipush (v := nI 48) hx hb dX3_takeInto_86 (by decide) ?_
                refine lv_isub hx hb dX3_takeInto_88 ?_
                refine lv_topi (nm_r (e' := nI ((x i) - 48)) (pk_sub (by omega)) ?_)
                refine lv_istore (lv' := [(6, .int (nI ((x i) - 48))), (9, .int (nI (x i))), (0, .ref (t 0)), (1, .ref (a 0)), (2, .int (nI k)), (3, .int (nI (stt x i))), (4, .int (nI sd)), (5, .int (nI ps)), (7, .int (nI tk)), (8, .int (nI i))]) hx hb dX3_takeInto_89 hl (by decide) rfl (fun ls hl => ?_)
                refine lv_goto (tgt := 114) hx hb dX3_takeInto_91 (by decide) ?_
                refine lv_iload_n hx hb dX3_takeInto_114 rfl (lv_at hl 5 rfl) ?_
                refine lv_iload hx hb dX3_takeInto_115 (lv_at hl 1 rfl) ?_
                refine zrdS (As := [.int (nI (stt x i)), .int (nI (x i))]) ⟨hx, hb, hml, hown, hts⟩ (kX3_expectedAfter l G  (stt x i) (x i) (by omega) (by omega)) (va_cwS 2 hts gX3_takeInto_X3_expectedAfter rfl rfl rfl (by decide +kernel) ⟨Nat.le_of_ble_eq_true rfl, Nat.le_of_ble_eq_true rfl⟩) hG (trivial) rfl rfl hl.1 dX3_takeInto_117 (Nat.le_of_ble_eq_true rfl) ⟨Nat.le_of_ble_eq_true rfl, Nat.le_of_ble_eq_true rfl⟩ ?_
                have hf117_0 := xA_le ((stt x i)) ((x i))
                refine lv_istore_n (lv' := [(3, .int (nI (xA (stt x i) (x i)))), (6, .int (nI ((x i) - 48))), (9, .int (nI (x i))), (0, .ref (t 0)), (1, .ref (a 0)), (2, .int (nI k)), (4, .int (nI sd)), (5, .int (nI ps)), (7, .int (nI tk)), (8, .int (nI i))]) hx hb dX3_takeInto_120 rfl hl (by decide) rfl (fun ls hl => ?_)
                refine lv_iinc (v := nI (i + 1)) (lv' := [(8, .int (nI (i + 1))), (3, .int (nI (xA (stt x i) (x i)))), (6, .int (nI ((x i) - 48))), (9, .int (nI (x i))), (0, .ref (t 0)), (1, .ref (a 0)), (2, .int (nI k)), (4, .int (nI sd)), (5, .int (nI ps)), (7, .int (nI tk))]) hx hb dX3_takeInto_121 hl (k := 9) rfl (zinc1 _) (by decide) rfl (fun ls hl => ?_)
                refine lv_goto (tgt := 18) hx hb dX3_takeInto_124 (by decide) ?_
                exact ih (i + 1) sd ps ((x i) - 48) tk τ (by rw [tkR, ← hR]; unfold tkS; dsimp only; rw [if_neg (by omega), if_neg (by omega), if_pos h81]) (by omega) (by omega) (by omega) (hOτ) (by have := hnf i (by omega); have := stt_le x (i + 1); omega) (by omega) (by omega) _ (lv_sub hl [4, 5, 6, 1, 7, 8, 2, 9, 0] rfl) _ _ (hP) (hD) hS
            · skip
              have h66 : (stt x i) = 1 := (nI_eq (by omega) (by omega)).mp h66
              have hdg : 48 ≤ x i ∧ x i ≤ 57 := Decidable.byContradiction fun z => hnf i (by omega) (by rw [stt, h66]; unfold xA; rw [if_neg (by omega), if_pos rfl, if_neg z])
              refine lv_iload hx hb dX3_takeInto_69 (lv_at hl 0 rfl) ?_
              refine lv_bipush (v := nI 48) hx hb dX3_takeInto_71 (by decide) ?_
              refine lv_isub hx hb dX3_takeInto_73 ?_
              refine lv_topi (nm_r (e' := nI ((x i) - 48)) (pk_sub (by omega)) ?_)
              refine lv_istore (lv' := [(5, .int (nI ((x i) - 48))), (9, .int (nI (x i))), (0, .ref (t 0)), (1, .ref (a 0)), (2, .int (nI k)), (3, .int (nI (stt x i))), (4, .int (nI sd)), (6, .int (nI sg)), (7, .int (nI tk)), (8, .int (nI i))]) hx hb dX3_takeInto_74 hl (by decide) rfl (fun ls hl => ?_)
              refine lv_goto (tgt := 114) hx hb dX3_takeInto_76 (by decide) ?_
              refine lv_iload_n hx hb dX3_takeInto_114 rfl (lv_at hl 5 rfl) ?_
              refine lv_iload hx hb dX3_takeInto_115 (lv_at hl 1 rfl) ?_
              refine zrdS (As := [.int (nI (stt x i)), .int (nI (x i))]) ⟨hx, hb, hml, hown, hts⟩ (kX3_expectedAfter l G  (stt x i) (x i) (by omega) (by omega)) (va_cwS 2 hts gX3_takeInto_X3_expectedAfter rfl rfl rfl (by decide +kernel) ⟨Nat.le_of_ble_eq_true rfl, Nat.le_of_ble_eq_true rfl⟩) hG (trivial) rfl rfl hl.1 dX3_takeInto_117 (Nat.le_of_ble_eq_true rfl) ⟨Nat.le_of_ble_eq_true rfl, Nat.le_of_ble_eq_true rfl⟩ ?_
              have hf117_0 := xA_le ((stt x i)) ((x i))
              refine lv_istore_n (lv' := [(3, .int (nI (xA (stt x i) (x i)))), (5, .int (nI ((x i) - 48))), (9, .int (nI (x i))), (0, .ref (t 0)), (1, .ref (a 0)), (2, .int (nI k)), (4, .int (nI sd)), (6, .int (nI sg)), (7, .int (nI tk)), (8, .int (nI i))]) hx hb dX3_takeInto_120 rfl hl (by decide) rfl (fun ls hl => ?_)
              refine lv_iinc (v := nI (i + 1)) (lv' := [(8, .int (nI (i + 1))), (3, .int (nI (xA (stt x i) (x i)))), (5, .int (nI ((x i) - 48))), (9, .int (nI (x i))), (0, .ref (t 0)), (1, .ref (a 0)), (2, .int (nI k)), (4, .int (nI sd)), (6, .int (nI sg)), (7, .int (nI tk))]) hx hb dX3_takeInto_121 hl (k := 9) rfl (zinc1 _) (by decide) rfl (fun ls hl => ?_)
              refine lv_goto (tgt := 18) hx hb dX3_takeInto_124 (by decide) ?_
              exact ih (i + 1) sd ((x i) - 48) sg tk τ (by rw [tkR, ← hR]; unfold tkS; dsimp only; rw [if_neg (by omega), if_pos h66]) (by omega) (by omega) (by omega) (hOτ) (by have := hnf i (by omega); have := stt_le x (i + 1); omega) (by omega) (by omega) _ (lv_sub hl [4, 5, 6, 1, 7, 2, 8, 9, 0] rfl) _ _ (hP) (hD) hS
          · skip
            have h47 : (stt x i) = 0 := (z_eq0 (by omega)).mp h47
            refine lv_iload hx hb dX3_takeInto_50 (lv_at hl 0 rfl) ?_
            have hn4 : sdN (x i) ≠ 4 := fun z => hnf i (by omega) (by rw [stt, h47]; unfold xA; rw [if_pos rfl, if_pos z])
            refine zrdS (As := [.int (nI (x i))]) ⟨hx, hb, hml, hown, hts⟩ (kX3_sideNamed l G  (x i) (by omega)) (va_cwS 1 hts gX3_takeInto_X3_sideNamed rfl rfl rfl (by decide +kernel) ⟨Nat.le_of_ble_eq_true rfl, Nat.le_of_ble_eq_true rfl⟩) hG (trivial) rfl rfl hl.1 dX3_takeInto_52 (Nat.le_of_ble_eq_true rfl) ⟨Nat.le_of_ble_eq_true rfl, Nat.le_of_ble_eq_true rfl⟩ ?_
            have hf52_0 := sdN_le ((x i))
            refine lv_topi (nm_r (e' := nI (sdN (x i))) (zc_n hn4) ?_)
            refine lv_istore (lv' := [(4, .int (nI (sdN (x i)))), (9, .int (nI (x i))), (0, .ref (t 0)), (1, .ref (a 0)), (2, .int (nI k)), (3, .int (nI (stt x i))), (5, .int (nI ps)), (6, .int (nI sg)), (7, .int (nI tk)), (8, .int (nI i))]) hx hb dX3_takeInto_55 hl (by decide) rfl (fun ls hl => ?_)
            refine lv_bipush (v := nI 10) hx hb dX3_takeInto_57 (by decide) ?_
            refine lv_istore (lv' := [(6, .int (nI 10)), (4, .int (nI (sdN (x i)))), (9, .int (nI (x i))), (0, .ref (t 0)), (1, .ref (a 0)), (2, .int (nI k)), (3, .int (nI (stt x i))), (5, .int (nI ps)), (7, .int (nI tk)), (8, .int (nI i))]) hx hb dX3_takeInto_59 hl (by decide) rfl (fun ls hl => ?_)
            refine lv_goto (tgt := 114) hx hb dX3_takeInto_61 (by decide) ?_
            refine lv_iload_n hx hb dX3_takeInto_114 rfl (lv_at hl 6 rfl) ?_
            refine lv_iload hx hb dX3_takeInto_115 (lv_at hl 2 rfl) ?_
            refine zrdS (As := [.int (nI (stt x i)), .int (nI (x i))]) ⟨hx, hb, hml, hown, hts⟩ (kX3_expectedAfter l G  (stt x i) (x i) (by omega) (by omega)) (va_cwS 2 hts gX3_takeInto_X3_expectedAfter rfl rfl rfl (by decide +kernel) ⟨Nat.le_of_ble_eq_true rfl, Nat.le_of_ble_eq_true rfl⟩) hG (trivial) rfl rfl hl.1 dX3_takeInto_117 (Nat.le_of_ble_eq_true rfl) ⟨Nat.le_of_ble_eq_true rfl, Nat.le_of_ble_eq_true rfl⟩ ?_
            have hf117_0 := xA_le ((stt x i)) ((x i))
            refine lv_istore_n (lv' := [(3, .int (nI (xA (stt x i) (x i)))), (6, .int (nI 10)), (4, .int (nI (sdN (x i)))), (9, .int (nI (x i))), (0, .ref (t 0)), (1, .ref (a 0)), (2, .int (nI k)), (5, .int (nI ps)), (7, .int (nI tk)), (8, .int (nI i))]) hx hb dX3_takeInto_120 rfl hl (by decide) rfl (fun ls hl => ?_)
            refine lv_iinc (v := nI (i + 1)) (lv' := [(8, .int (nI (i + 1))), (3, .int (nI (xA (stt x i) (x i)))), (6, .int (nI 10)), (4, .int (nI (sdN (x i)))), (9, .int (nI (x i))), (0, .ref (t 0)), (1, .ref (a 0)), (2, .int (nI k)), (5, .int (nI ps)), (7, .int (nI tk))]) hx hb dX3_takeInto_121 hl (k := 9) rfl (zinc1 _) (by decide) rfl (fun ls hl => ?_)
            refine lv_goto (tgt := 18) hx hb dX3_takeInto_124 (by decide) ?_
            exact ih (i + 1) (sdN (x i)) ps 10 tk τ (by rw [tkR, ← hR]; unfold tkS; dsimp only; rw [if_pos h47]) (by omega) (by omega) (by omega) (hOτ) (by have := hnf i (by omega); have := stt_le x (i + 1); omega) (by omega) (by omega) _ (lv_sub hl [5, 6, 7, 1, 3, 8, 2, 9, 0] rfl) _ _ (hP) (hD) hS
  exact loop18 (n + 1) 0 0 0 10 0 σ (rfl) (by omega) (by omega) (by omega) (hO) (by show 0 ≤ 4; omega) (by omega) (by omega) _ (lv_sub hl [6, 7, 8, 5, 4, 3, 2, 1, 0] rfl) _ _ (hP) (hD) hS
