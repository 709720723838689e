theorem bgnF {c r g t k w : Nat} (hw : w < 53) : sF (bgn c r g t) (64 + 53 * k + w) = if w < 40 then nI 10 else if w < 50 then nI (w - 40) else if w = 50 then nI 0 else if w = 51 then (-4) else nI 1000 := by
  have e : (64 + 53 * k + w - 64) % 53 = w := by omega
  have b : bgn c r g t (64 + 53 * k + w) = if w < 40 then 10 else if w < 50 then w - 40 else if w < 52 then 0 else 1000 := by
    unfold bgn
    rw [if_neg (by omega), if_neg (by omega), if_neg (by omega), if_neg (by omega), if_neg (by omega), e]
  unfold sF
  rw [e, b]
  by_cases h1 : w < 40
  · rw [if_neg (by omega), if_pos h1, if_pos h1]
  · by_cases h2 : w < 50
    · rw [if_neg (by omega), if_neg h1, if_neg h1, if_pos h2, if_pos h2]
    · by_cases h3 : w = 50
      · rw [if_neg (by omega), if_neg h1, if_neg h1, if_neg h2, if_neg h2, if_pos h3, if_pos (by omega)]
      · by_cases h4 : w = 51
        · rw [if_pos (by omega), if_neg h1, if_neg h1, if_neg h2, if_neg h2, if_neg h3, if_pos h4, if_pos (by omega)]
          rfl
        · rw [if_neg (by omega), if_neg h1, if_neg h1, if_neg h2, if_neg h2, if_neg h3, if_neg h4, if_neg (by omega)]
theorem updv_hi {V : Nat → Nat → Nat} {ζ : Nat → Nat} : updv V 4 ζ = fun i => if i = 3 then ζ else V (i + 1) := by
  funext i
  unfold updv
  rw [if_neg (by omega)]
theorem updv_lo {V : Nat → Nat → Nat} {n : Nat} {ζ : Nat → Nat} (h : n < 4) : updv V n ζ = fun i => if i = n then ζ else V i := by
  funext i
  unfold updv
  rw [if_pos h]
/-! agreed edges that are not clean: the reference releases them, all edges in a row -/
def grS (τ : Nat → Nat) (e : Nat) : Nat → Nat := if agn τ e = 1 ∧ 0 < qrl τ e then su τ (4 + e) 0 else τ
def grs (σ : Nat → Nat) : Nat → Nat → Nat
  | 0 => σ
  | i + 1 => grS (grs σ i) i
/-- how many of the first n edges are agreed and not clean -/
def brA (σ : Nat → Nat) (n : Nat) : Nat := sm (fun e => if agn σ e = 1 ∧ 0 < qrl σ e then 1 else 0) n
theorem mns_ag {σ : Nat → Nat} {e v : Nat} (he : e < 60) (k d p : Nat) : mns (su σ (4 + e) v) k d p = mns σ k d p := by
  unfold mns sgn mng
  rw [su_ne _ _ (by omega)]
  by_cases q : σ (64 + 53 * k + (10 * d + p)) = 10
  · rw [if_pos q, if_pos q]
  · rw [if_neg q, if_neg q, su_ne _ _ (by omega)]
theorem qrl_ag {σ : Nat → Nat} {e v : Nat} (he : e < 60) (i : Nat) : qrl (su σ (4 + e) v) i = qrl σ i := by
  unfold qrl
  refine sm_congr fun p _ => ?_
  unfold rsn
  simp only [fS_su (show 2 ≤ 4 + e by omega), sS_su (show 2 ≤ 4 + e by omega), fD_su (show 2 ≤ 4 + e by omega), sD_su (show 2 ≤ 4 + e by omega), mns_ag he]
theorem grs_q (σ : Nat → Nat) : ∀ n, n ≤ 60 → (∀ i, qrl (grs σ n) i = qrl σ i) ∧ (∀ e, n ≤ e → agn (grs σ n) e = agn σ e) ∧ (∀ j, j < 4 → grs σ n j = σ j) := by
  intro n
  induction n with
  | zero => exact fun _ => ⟨fun _ => rfl, fun _ _ => rfl, fun _ _ => rfl⟩
  | succ n ih =>
    intro hn
    obtain ⟨h1, h2, h3⟩ := ih (by omega)
    show (∀ i, qrl (grS (grs σ n) n) i = qrl σ i) ∧ (∀ e, n + 1 ≤ e → agn (grS (grs σ n) n) e = agn σ e) ∧ (∀ j, j < 4 → grS (grs σ n) n j = σ j)
    unfold grS
    split
    · refine ⟨fun i => by rw [qrl_ag (by omega), h1], fun e he => ?_, fun j hj => ?_⟩
      · unfold agn
        rw [su_ne _ _ (by omega)]
        exact h2 e (by omega)
      · rw [su_ne _ _ (by omega)]
        exact h3 j hj
    · exact ⟨h1, fun e he => h2 e (by omega), h3⟩
theorem Ok.gr {N : Nat} {σ : Nat → Nat} (h : Ok N σ) : ∀ n, n ≤ 60 → Ok N (grs σ n) := by
  intro n
  induction n with
  | zero => exact fun _ => h
  | succ n ih =>
    intro hn
    have ho := ih (by omega)
    show Ok N (grS (grs σ n) n)
    unfold grS
    split
    · exact ho.su_ag (by omega) (by omega)
    · exact ho
theorem brA_le (σ : Nat → Nat) (n : Nat) : brA σ n ≤ n := sm_dec n
set_option maxHeartbeats 4000000 in
set_option maxRecDepth 100000 in
theorem kX5_records (l : Launch) (G : zG) (m : Nat → Nat) (σ : Nat → Nat) (V : Nat → Nat → Nat) (ζ : Nat → Nat) (ns : Nat) (x : Nat → Nat) (len : Nat) (B : Nat → Int32) (v : Int32) (hns : ns ≤ 4) (hd : va_D (fun _ => True) (wM G m σ V ζ ns x len B)) : Met l yX5_records wsX5_records (zRm 0 0) (zPc G [.ref (m 0), .int v] (va_P G.1 vwCl (wM G m σ V ζ ns x len B))) (zQ (zA (wM G m σ V ζ ns x len B)) (some (.int (v))) (va_P G.1 vwCl (wM G m σ (updv V ns ζ) ζ (nN ns) x len B))) 0 0 (zA (wM G m σ V ζ ns x len B)) := by
  refine zmkWi (w := (wM G m σ V ζ ns x len B)) hd (cc := cX5_records) (maxL := 3) (by decide) rfl (Nat.le_of_ble_eq_true rfl) ?_
  intro pr en st mi ar bl me cd ls Q hx hb hml hown hts hG hP hl hD hS hret
  have hown : st.vm.findClass RX5 = some mi.cls := hown
  have hl : lv_has ls 3 [(0, .ref (m 0)), (1, .int v)] := hl
  have hP : va_P G.1 vwCl (wM G m σ V ζ ns x len B) st.heap := hP
  have hD : va_D (zA (wM G m σ V ζ ns x len B)) (wM G m σ V ζ ns x len B) := hD
  have hinX5 : ∀ w ∈ wsX50, w ∈ wsX5_records := by decide +kernel
  have hf29 := hts (.fieldLink RX5 29 "MapSheetsModel" "states" "I") (by decide +kernel)
  have hf13 := hts (.fieldLink RX5 13 "MapSheetsModel" "was" "[I") (by decide +kernel)
  have hf16 := hts (.fieldLink RX5 16 "MapSheetsModel" "aside" "[I") (by decide +kernel)
  refine lv_aload_n hx hb dX5_records_0 rfl (lv_at hl 0 rfl) ?_
  refine va_get (D := G.1) (ci := 5) (v := .int (nI ns)) (C := RX5) (T := TX5) (N := 7) hx hb hts hinX5 hown hG.1 hP 0 rfl rfl 3 (by decide) hf29 (fun _ h9 => h9) rfl dX5_records_1 ?_
  refine lv_iconst (v := nI 4) hx hb dX5_records_4 (by decide) ?_
  refine lv_icmp_ne (tgt := 49) hx hb dX5_records_5 (by decide) (fun h5 => ?_) (fun h5 => ?_)
  · skip
    have h5 : ¬ (ns = 4) := fun q => h5 ((nI_eq (by omega) (by omega)).mpr q)
    refine lv_iconst (v := nI 0) hx hb dX5_records_49 (by decide) ?_
    refine lv_istore_n (lv' := [(2, .int (nI 0)), (0, .ref (m 0)), (1, .int v)]) hx hb dX5_records_50 rfl hl (by decide) rfl (fun ls hl => ?_)
    have loop51 : ∀ (n : Nat) (i : Nat) (g2 : Nat → Int32) (k : Nat) (hg2 : ∀ j, j < 7888 → (j / 1972 = k → j % 1972 < i → g2 j = sF ζ (j % 1972)) ∧ (j / 1972 ≠ k → g2 j = wF (updv V ns ζ) j)) (huk : updv V ns ζ k = ζ) (hnk : nN ns = k + 1) (hk3 : k ≤ 3) (hi : i ≤ 1972) (hn : 1972 < i + n) (ls : Array Slot) (hl : lv_has ls 3 [(0, .ref (m 0)), (1, .int v), (2, .int (nI i))]) (H : Heap) (locs : List Loc) (hP : va_P G.1 vwCl [(m 0, .inr (5, [.ref (m 1), .ref (m 2), .ref (m 3), .int (nI k), .ref (m 4), .int (nI len), .ref (m 5)])), (m 1, .inl (G.2.1, 1972, .inl (sF σ))), (m 2, .inl (G.2.1, 7888, .inl g2)), (m 3, .inl (G.2.1, 1972, .inl (sF ζ))), (m 4, .inl (G.2.1, 100, .inl (fun i => nI (x i)))), (m 5, .inl (G.2.1, 36, .inl B))] H) (hD : va_D (zA (wM G m σ V ζ ns x len B)) [(m 0, .inr (5, [.ref (m 1), .ref (m 2), .ref (m 3), .int (nI k), .ref (m 4), .int (nI len), .ref (m 5)])), (m 1, .inl (G.2.1, 1972, .inl (sF σ))), (m 2, .inl (G.2.1, 7888, .inl g2)), (m 3, .inl (G.2.1, 1972, .inl (sF ζ))), (m 4, .inl (G.2.1, 100, .inl (fun i => nI (x i)))), (m 5, .inl (G.2.1, 36, .inl B))]) (hS : va_S (zA (wM G m σ V ζ ns x len B)) st.heap H locs), W pr l en (zRm 0 0) st mi ar bl me cd H locs 0 0 Q (F0 mi 51 ls []) := by
      intro n
      induction n with
      | zero => intro i g2 k hg2 huk hnk hk3 hi hn ls hl H locs hP hD hS; exfalso; omega
      | succ n ih51 =>
        intro i g2 k hg2 huk hnk hk3 hi hn ls hl H locs hP hD hS
        refine lv_iload_n hx hb dX5_records_51 rfl (lv_at hl 2 rfl) ?_
        refine lv_sipush (v := nI 1972) hx hb dX5_records_52 (by decide) ?_
        refine lv_icmp_ge (tgt := 85) hx hb dX5_records_55 (by decide) (fun h55 => ?_) (fun h55 => ?_)
        · skip
          have h55 : 1972 ≤ i := (nI_leI (by omega) (by omega)).mp h55
          refine lv_aload_n hx hb dX5_records_85 rfl (lv_at hl 0 rfl) ?_
          refine lv_dup hx hb dX5_records_86 rfl ?_
          refine va_get (D := G.1) (ci := 5) (v := .int (nI k)) (C := RX5) (T := TX5) (N := 7) hx hb hts hinX5 hown hG.1 hP 0 rfl rfl 3 (by decide) hf29 (fun _ h9 => h9) rfl dX5_records_87 ?_
          refine lv_iconst (v := nI 1) hx hb dX5_records_90 (by decide) ?_
          refine lv_iadd hx hb dX5_records_91 ?_
          refine lv_topi (nm_r (e' := nI (k + 1)) (nI_add _ _) ?_)
          refine va_put (D := G.1) (ci := 5) (v := .int (nI (k + 1))) (ty := .int) (C := RX5) (T := TX5) (N := 7) hx hb hts hinX5 tyX5 tyX5_ok nmX5 hown hG.1 hP hD hS 0 rfl rfl 3 (by decide) hf29 (fun _ h9 => h9) rfl (by decide +kernel) rfl rfl (Nat.le_of_ble_eq_true rfl) dX5_records_92 (fun H locs hP hD hS => ?_)
          have hP : va_P G.1 vwCl [(m 0, .inr (5, [.ref (m 1), .ref (m 2), .ref (m 3), .int (nI (k + 1)), .ref (m 4), .int (nI len), .ref (m 5)])), (m 1, .inl (G.2.1, 1972, .inl (sF σ))), (m 2, .inl (G.2.1, 7888, .inl g2)), (m 3, .inl (G.2.1, 1972, .inl (sF ζ))), (m 4, .inl (G.2.1, 100, .inl (fun i => nI (x i)))), (m 5, .inl (G.2.1, 36, .inl B))] H := hP
          have hD : va_D (zA (wM G m σ V ζ ns x len B)) [(m 0, .inr (5, [.ref (m 1), .ref (m 2), .ref (m 3), .int (nI (k + 1)), .ref (m 4), .int (nI len), .ref (m 5)])), (m 1, .inl (G.2.1, 1972, .inl (sF σ))), (m 2, .inl (G.2.1, 7888, .inl g2)), (m 3, .inl (G.2.1, 1972, .inl (sF ζ))), (m 4, .inl (G.2.1, 100, .inl (fun i => nI (x i)))), (m 5, .inl (G.2.1, 36, .inl B))] := hD
          refine lv_iload_n hx hb dX5_records_95 rfl (lv_at hl 1 rfl) ?_
          exact hret _ _ _ _ _ dX5_records_96 hS (by rw [hnk]; exact wM_s (fun j _ => rfl) (fun j hj => by by_cases q : j / 1972 = k; (rw [(hg2 j hj).1 q (by omega)]; unfold wF; rw [q, huk]); exact (hg2 j hj).2 q) (fun j _ => rfl) (fun j _ => rfl) hP) (rfl)
        · skip
          have h55 : ¬ (1972 ≤ i) := fun q => h55 ((nI_leI (by omega) (by omega)).mpr q)
          refine lv_aload_n hx hb dX5_records_58 rfl (lv_at hl 0 rfl) ?_
          refine va_get (D := G.1) (ci := 5) (v := .ref (m 2)) (C := RX5) (T := TX5) (N := 7) hx hb hts hinX5 hown hG.1 hP 0 rfl rfl 1 (by decide) hf13 (fun _ h9 => h9) rfl dX5_records_59 ?_
          refine lv_sipush (v := nI 1972) hx hb dX5_records_62 (by decide) ?_
          refine lv_aload_n hx hb dX5_records_65 rfl (lv_at hl 0 rfl) ?_
          refine va_get (D := G.1) (ci := 5) (v := .int (nI k)) (C := RX5) (T := TX5) (N := 7) hx hb hts hinX5 hown hG.1 hP 0 rfl rfl 3 (by decide) hf29 (fun _ h9 => h9) rfl dX5_records_66 ?_
          refine lv_imul hx hb dX5_records_69 ?_
          refine lv_topi (nm_r (e' := nI (1972 * k)) (pk_mul _ _) ?_)
          refine lv_iload_n hx hb dX5_records_70 rfl (lv_at hl 2 rfl) ?_
          refine lv_iadd hx hb dX5_records_71 ?_
          refine lv_topi (nm_r (e' := nI ((1972 * k) + i)) (nI_add _ _) ?_)
          refine lv_aload_n hx hb dX5_records_72 rfl (lv_at hl 0 rfl) ?_
          refine va_get (D := G.1) (ci := 5) (v := .ref (m 3)) (C := RX5) (T := TX5) (N := 7) hx hb hts hinX5 hown hG.1 hP 0 rfl rfl 2 (by decide) hf16 (fun _ h9 => h9) rfl dX5_records_73 ?_
          refine lv_iload_n hx hb dX5_records_76 rfl (lv_at hl 2 rfl) ?_
          refine va_iald hx hb hG.1 hP 3 0 rfl rfl (vp_in_nI (n := i) (N := 1972) (by omega) (by omega)) dX5_records_77 ?_
          refine lv_topi (nm_r (e' := (sF ζ) i) (by rw [nI_clamp (by omega)]) ?_)
          refine va_iast hx hb hG.1 hP hD hS 2 0 rfl rfl (vp_in_nI (n := (1972 * k) + i) (N := 7888) (by omega) (by omega)) dX5_records_78 (fun H locs hP hD hS => ?_)
          rw [nI_clamp (show (1972 * k) + i < 2 ^ 31 by omega)] at hP hD
          have hP : va_P G.1 vwCl [(m 0, .inr (5, [.ref (m 1), .ref (m 2), .ref (m 3), .int (nI k), .ref (m 4), .int (nI len), .ref (m 5)])), (m 1, .inl (G.2.1, 1972, .inl (sF σ))), (m 2, .inl (G.2.1, 7888, .inl (upd g2 ((1972 * k) + i) ((sF ζ) i)))), (m 3, .inl (G.2.1, 1972, .inl (sF ζ))), (m 4, .inl (G.2.1, 100, .inl (fun i => nI (x i)))), (m 5, .inl (G.2.1, 36, .inl B))] H := hP
          have hD : va_D (zA (wM G m σ V ζ ns x len B)) [(m 0, .inr (5, [.ref (m 1), .ref (m 2), .ref (m 3), .int (nI k), .ref (m 4), .int (nI len), .ref (m 5)])), (m 1, .inl (G.2.1, 1972, .inl (sF σ))), (m 2, .inl (G.2.1, 7888, .inl (upd g2 ((1972 * k) + i) ((sF ζ) i)))), (m 3, .inl (G.2.1, 1972, .inl (sF ζ))), (m 4, .inl (G.2.1, 100, .inl (fun i => nI (x i)))), (m 5, .inl (G.2.1, 36, .inl B))] := hD
          refine lv_iinc (v := nI (i + 1)) (lv' := [(2, .int (nI (i + 1))), (0, .ref (m 0)), (1, .int v)]) hx hb dX5_records_79 hl (k := 2) rfl (zinc1 _) (by decide) rfl (fun ls hl => ?_)
          refine lv_goto (tgt := 51) hx hb dX5_records_82 (by decide) ?_
          exact ih51 (i + 1) (upd g2 ((1972 * k) + i) ((sF ζ) i)) k (fun j hj => ⟨fun h1 h2 => by unfold upd; split; (rename_i q; rw [show j % 1972 = i by omega]); exact (hg2 j hj).1 h1 (by omega), fun h => by unfold upd; rw [if_neg (by omega)]; exact (hg2 j hj).2 h⟩) (huk) (hnk) (hk3) (by omega) (by omega) _ (lv_sub hl [1, 2, 0] rfl) _ _ (hP) (hD) hS
    exact loop51 1973 0 (wF V) ns (fun j _ => ⟨fun _ h => absurd h (Nat.not_lt_zero _), fun h => by unfold wF; rw [updv_lo (by omega)]; show _ = sF (if j / 1972 = ns then ζ else V (j / 1972)) (j % 1972); rw [if_neg h]⟩) (by rw [updv_lo (by omega)]; exact if_pos rfl) (by show (if ns < 4 then ns + 1 else ns) = ns + 1; rw [if_pos (by omega)]) (by omega) (by omega) (by omega) _ (lv_sub hl [1, 2, 0] rfl) _ _ (hP) (hD) hS
  · skip
    have h5 : ns = 4 := (nI_eq (by omega) (by omega)).mp h5
    refine lv_iconst (v := nI 0) hx hb dX5_records_8 (by decide) ?_
    refine lv_istore_n (lv' := [(2, .int (nI 0)), (0, .ref (m 0)), (1, .int v)]) hx hb dX5_records_9 rfl hl (by decide) rfl (fun ls hl => ?_)
    have loop10 : ∀ (n : Nat) (i : Nat) (g : Nat → Int32) (hg : ∀ j, j < i → g j = wF V (j + 1972)) (hgr : ∀ j, i ≤ j → g j = wF V j) (hi : i ≤ 5916) (hn : 5916 < i + n) (ls : Array Slot) (hl : lv_has ls 3 [(0, .ref (m 0)), (1, .int v), (2, .int (nI i))]) (H : Heap) (locs : List Loc) (hP : va_P G.1 vwCl [(m 0, .inr (5, [.ref (m 1), .ref (m 2), .ref (m 3), .int (nI ns), .ref (m 4), .int (nI len), .ref (m 5)])), (m 1, .inl (G.2.1, 1972, .inl (sF σ))), (m 2, .inl (G.2.1, 7888, .inl g)), (m 3, .inl (G.2.1, 1972, .inl (sF ζ))), (m 4, .inl (G.2.1, 100, .inl (fun i => nI (x i)))), (m 5, .inl (G.2.1, 36, .inl B))] H) (hD : va_D (zA (wM G m σ V ζ ns x len B)) [(m 0, .inr (5, [.ref (m 1), .ref (m 2), .ref (m 3), .int (nI ns), .ref (m 4), .int (nI len), .ref (m 5)])), (m 1, .inl (G.2.1, 1972, .inl (sF σ))), (m 2, .inl (G.2.1, 7888, .inl g)), (m 3, .inl (G.2.1, 1972, .inl (sF ζ))), (m 4, .inl (G.2.1, 100, .inl (fun i => nI (x i)))), (m 5, .inl (G.2.1, 36, .inl B))]) (hS : va_S (zA (wM G m σ V ζ ns x len B)) st.heap H locs), W pr l en (zRm 0 0) st mi ar bl me cd H locs 0 0 Q (F0 mi 10 ls []) := by
      intro n
      induction n with
      | zero => intro i g hg hgr hi hn ls hl H locs hP hD hS; exfalso; omega
      | succ n ih10 =>
        intro i g hg hgr hi hn ls hl H locs hP hD hS
        refine lv_iload_n hx hb dX5_records_10 rfl (lv_at hl 2 rfl) ?_
        refine lv_sipush (v := nI 5916) hx hb dX5_records_11 (by decide) ?_
        refine lv_icmp_ge (tgt := 39) hx hb dX5_records_14 (by decide) (fun h14 => ?_) (fun h14 => ?_)
        · skip
          have h14 : 5916 ≤ i := (nI_leI (by omega) (by omega)).mp h14
          refine lv_aload_n hx hb dX5_records_39 rfl (lv_at hl 0 rfl) ?_
          refine lv_dup hx hb dX5_records_40 rfl ?_
          refine va_get (D := G.1) (ci := 5) (v := .int (nI ns)) (C := RX5) (T := TX5) (N := 7) hx hb hts hinX5 hown hG.1 hP 0 rfl rfl 3 (by decide) hf29 (fun _ h9 => h9) rfl dX5_records_41 ?_
          refine lv_iconst (v := nI 1) hx hb dX5_records_44 (by decide) ?_
          refine lv_isub hx hb dX5_records_45 ?_
          refine lv_topi (nm_r (e' := nI (ns - 1)) (pk_sub (by omega)) ?_)
          refine va_put (D := G.1) (ci := 5) (v := .int (nI (ns - 1))) (ty := .int) (C := RX5) (T := TX5) (N := 7) hx hb hts hinX5 tyX5 tyX5_ok nmX5 hown hG.1 hP hD hS 0 rfl rfl 3 (by decide) hf29 (fun _ h9 => h9) rfl (by decide +kernel) rfl rfl (Nat.le_of_ble_eq_true rfl) dX5_records_46 (fun H locs hP hD hS => ?_)
          have hP : va_P G.1 vwCl [(m 0, .inr (5, [.ref (m 1), .ref (m 2), .ref (m 3), .int (nI (ns - 1)), .ref (m 4), .int (nI len), .ref (m 5)])), (m 1, .inl (G.2.1, 1972, .inl (sF σ))), (m 2, .inl (G.2.1, 7888, .inl g)), (m 3, .inl (G.2.1, 1972, .inl (sF ζ))), (m 4, .inl (G.2.1, 100, .inl (fun i => nI (x i)))), (m 5, .inl (G.2.1, 36, .inl B))] H := hP
          have hD : va_D (zA (wM G m σ V ζ ns x len B)) [(m 0, .inr (5, [.ref (m 1), .ref (m 2), .ref (m 3), .int (nI (ns - 1)), .ref (m 4), .int (nI len), .ref (m 5)])), (m 1, .inl (G.2.1, 1972, .inl (sF σ))), (m 2, .inl (G.2.1, 7888, .inl g)), (m 3, .inl (G.2.1, 1972, .inl (sF ζ))), (m 4, .inl (G.2.1, 100, .inl (fun i => nI (x i)))), (m 5, .inl (G.2.1, 36, .inl B))] := hD
          refine lv_iconst (v := nI 0) hx hb dX5_records_49 (by decide) ?_
          refine lv_istore_n (lv' := [(2, .int (nI 0)), (0, .ref (m 0)), (1, .int v)]) hx hb dX5_records_50 rfl hl (by decide) rfl (fun ls hl => ?_)
          have loop51 : ∀ (n : Nat) (i : Nat) (g2 : Nat → Int32) (k : Nat) (hg2 : ∀ j, j < 7888 → (j / 1972 = k → j % 1972 < i → g2 j = sF ζ (j % 1972)) ∧ (j / 1972 ≠ k → g2 j = wF (updv V ns ζ) j)) (huk : updv V ns ζ k = ζ) (hnk : nN ns = k + 1) (hk3 : k ≤ 3) (hi : i ≤ 1972) (hn : 1972 < i + n) (ls : Array Slot) (hl : lv_has ls 3 [(0, .ref (m 0)), (1, .int v), (2, .int (nI i))]) (H : Heap) (locs : List Loc) (hP : va_P G.1 vwCl [(m 0, .inr (5, [.ref (m 1), .ref (m 2), .ref (m 3), .int (nI k), .ref (m 4), .int (nI len), .ref (m 5)])), (m 1, .inl (G.2.1, 1972, .inl (sF σ))), (m 2, .inl (G.2.1, 7888, .inl g2)), (m 3, .inl (G.2.1, 1972, .inl (sF ζ))), (m 4, .inl (G.2.1, 100, .inl (fun i => nI (x i)))), (m 5, .inl (G.2.1, 36, .inl B))] H) (hD : va_D (zA (wM G m σ V ζ ns x len B)) [(m 0, .inr (5, [.ref (m 1), .ref (m 2), .ref (m 3), .int (nI k), .ref (m 4), .int (nI len), .ref (m 5)])), (m 1, .inl (G.2.1, 1972, .inl (sF σ))), (m 2, .inl (G.2.1, 7888, .inl g2)), (m 3, .inl (G.2.1, 1972, .inl (sF ζ))), (m 4, .inl (G.2.1, 100, .inl (fun i => nI (x i)))), (m 5, .inl (G.2.1, 36, .inl B))]) (hS : va_S (zA (wM G m σ V ζ ns x len B)) st.heap H locs), W pr l en (zRm 0 0) st mi ar bl me cd H locs 0 0 Q (F0 mi 51 ls []) := by
            intro n
            induction n with
            | zero => intro i g2 k hg2 huk hnk hk3 hi hn ls hl H locs hP hD hS; exfalso; omega
            | succ n ih51 =>
              intro i g2 k hg2 huk hnk hk3 hi hn ls hl H locs hP hD hS
              refine lv_iload_n hx hb dX5_records_51 rfl (lv_at hl 2 rfl) ?_
              refine lv_sipush (v := nI 1972) hx hb dX5_records_52 (by decide) ?_
              refine lv_icmp_ge (tgt := 85) hx hb dX5_records_55 (by decide) (fun h55 => ?_) (fun h55 => ?_)
              · skip
                have h55 : 1972 ≤ i := (nI_leI (by omega) (by omega)).mp h55
                refine lv_aload_n hx hb dX5_records_85 rfl (lv_at hl 0 rfl) ?_
                refine lv_dup hx hb dX5_records_86 rfl ?_
                refine va_get (D := G.1) (ci := 5) (v := .int (nI k)) (C := RX5) (T := TX5) (N := 7) hx hb hts hinX5 hown hG.1 hP 0 rfl rfl 3 (by decide) hf29 (fun _ h9 => h9) rfl dX5_records_87 ?_
                refine lv_iconst (v := nI 1) hx hb dX5_records_90 (by decide) ?_
                refine lv_iadd hx hb dX5_records_91 ?_
                refine lv_topi (nm_r (e' := nI (k + 1)) (nI_add _ _) ?_)
                refine va_put (D := G.1) (ci := 5) (v := .int (nI (k + 1))) (ty := .int) (C := RX5) (T := TX5) (N := 7) hx hb hts hinX5 tyX5 tyX5_ok nmX5 hown hG.1 hP hD hS 0 rfl rfl 3 (by decide) hf29 (fun _ h9 => h9) rfl (by decide +kernel) rfl rfl (Nat.le_of_ble_eq_true rfl) dX5_records_92 (fun H locs hP hD hS => ?_)
                have hP : va_P G.1 vwCl [(m 0, .inr (5, [.ref (m 1), .ref (m 2), .ref (m 3), .int (nI (k + 1)), .ref (m 4), .int (nI len), .ref (m 5)])), (m 1, .inl (G.2.1, 1972, .inl (sF σ))), (m 2, .inl (G.2.1, 7888, .inl g2)), (m 3, .inl (G.2.1, 1972, .inl (sF ζ))), (m 4, .inl (G.2.1, 100, .inl (fun i => nI (x i)))), (m 5, .inl (G.2.1, 36, .inl B))] H := hP
                have hD : va_D (zA (wM G m σ V ζ ns x len B)) [(m 0, .inr (5, [.ref (m 1), .ref (m 2), .ref (m 3), .int (nI (k + 1)), .ref (m 4), .int (nI len), .ref (m 5)])), (m 1, .inl (G.2.1, 1972, .inl (sF σ))), (m 2, .inl (G.2.1, 7888, .inl g2)), (m 3, .inl (G.2.1, 1972, .inl (sF ζ))), (m 4, .inl (G.2.1, 100, .inl (fun i => nI (x i)))), (m 5, .inl (G.2.1, 36, .inl B))] := hD
                refine lv_iload_n hx hb dX5_records_95 rfl (lv_at hl 1 rfl) ?_
                exact hret _ _ _ _ _ dX5_records_96 hS (by rw [hnk]; exact wM_s (fun j _ => rfl) (fun j hj => by by_cases q : j / 1972 = k; (rw [(hg2 j hj).1 q (by omega)]; unfold wF; rw [q, huk]); exact (hg2 j hj).2 q) (fun j _ => rfl) (fun j _ => rfl) hP) (rfl)
              · skip
                have h55 : ¬ (1972 ≤ i) := fun q => h55 ((nI_leI (by omega) (by omega)).mpr q)
                refine lv_aload_n hx hb dX5_records_58 rfl (lv_at hl 0 rfl) ?_
                refine va_get (D := G.1) (ci := 5) (v := .ref (m 2)) (C := RX5) (T := TX5) (N := 7) hx hb hts hinX5 hown hG.1 hP 0 rfl rfl 1 (by decide) hf13 (fun _ h9 => h9) rfl dX5_records_59 ?_
                refine lv_sipush (v := nI 1972) hx hb dX5_records_62 (by decide) ?_
                refine lv_aload_n hx hb dX5_records_65 rfl (lv_at hl 0 rfl) ?_
                refine va_get (D := G.1) (ci := 5) (v := .int (nI k)) (C := RX5) (T := TX5) (N := 7) hx hb hts hinX5 hown hG.1 hP 0 rfl rfl 3 (by decide) hf29 (fun _ h9 => h9) rfl dX5_records_66 ?_
                refine lv_imul hx hb dX5_records_69 ?_
                refine lv_topi (nm_r (e' := nI (1972 * k)) (pk_mul _ _) ?_)
                refine lv_iload_n hx hb dX5_records_70 rfl (lv_at hl 2 rfl) ?_
                refine lv_iadd hx hb dX5_records_71 ?_
                refine lv_topi (nm_r (e' := nI ((1972 * k) + i)) (nI_add _ _) ?_)
                refine lv_aload_n hx hb dX5_records_72 rfl (lv_at hl 0 rfl) ?_
                refine va_get (D := G.1) (ci := 5) (v := .ref (m 3)) (C := RX5) (T := TX5) (N := 7) hx hb hts hinX5 hown hG.1 hP 0 rfl rfl 2 (by decide) hf16 (fun _ h9 => h9) rfl dX5_records_73 ?_
                refine lv_iload_n hx hb dX5_records_76 rfl (lv_at hl 2 rfl) ?_
                refine va_iald hx hb hG.1 hP 3 0 rfl rfl (vp_in_nI (n := i) (N := 1972) (by omega) (by omega)) dX5_records_77 ?_
                refine lv_topi (nm_r (e' := (sF ζ) i) (by rw [nI_clamp (by omega)]) ?_)
                refine va_iast hx hb hG.1 hP hD hS 2 0 rfl rfl (vp_in_nI (n := (1972 * k) + i) (N := 7888) (by omega) (by omega)) dX5_records_78 (fun H locs hP hD hS => ?_)
                rw [nI_clamp (show (1972 * k) + i < 2 ^ 31 by omega)] at hP hD
                have hP : va_P G.1 vwCl [(m 0, .inr (5, [.ref (m 1), .ref (m 2), .ref (m 3), .int (nI k), .ref (m 4), .int (nI len), .ref (m 5)])), (m 1, .inl (G.2.1, 1972, .inl (sF σ))), (m 2, .inl (G.2.1, 7888, .inl (upd g2 ((1972 * k) + i) ((sF ζ) i)))), (m 3, .inl (G.2.1, 1972, .inl (sF ζ))), (m 4, .inl (G.2.1, 100, .inl (fun i => nI (x i)))), (m 5, .inl (G.2.1, 36, .inl B))] H := hP
                have hD : va_D (zA (wM G m σ V ζ ns x len B)) [(m 0, .inr (5, [.ref (m 1), .ref (m 2), .ref (m 3), .int (nI k), .ref (m 4), .int (nI len), .ref (m 5)])), (m 1, .inl (G.2.1, 1972, .inl (sF σ))), (m 2, .inl (G.2.1, 7888, .inl (upd g2 ((1972 * k) + i) ((sF ζ) i)))), (m 3, .inl (G.2.1, 1972, .inl (sF ζ))), (m 4, .inl (G.2.1, 100, .inl (fun i => nI (x i)))), (m 5, .inl (G.2.1, 36, .inl B))] := hD
                refine lv_iinc (v := nI (i + 1)) (lv' := [(2, .int (nI (i + 1))), (0, .ref (m 0)), (1, .int v)]) hx hb dX5_records_79 hl (k := 2) rfl (zinc1 _) (by decide) rfl (fun ls hl => ?_)
                refine lv_goto (tgt := 51) hx hb dX5_records_82 (by decide) ?_
                exact ih51 (i + 1) (upd g2 ((1972 * k) + i) ((sF ζ) i)) k (fun j hj => ⟨fun h1 h2 => by unfold upd; split; (rename_i q; rw [show j % 1972 = i by omega]); exact (hg2 j hj).1 h1 (by omega), fun h => by unfold upd; rw [if_neg (by omega)]; exact (hg2 j hj).2 h⟩) (huk) (hnk) (hk3) (by omega) (by omega) _ (lv_sub hl [1, 2, 0] rfl) _ _ (hP) (hD) hS
          exact loop51 1973 0 g (ns - 1) (fun j hj => ⟨fun _ h => absurd h (Nat.not_lt_zero _), fun h => by rw [hg j (by omega)]; unfold wF; rw [h5, updv_hi]; show _ = sF (if j / 1972 = 3 then ζ else V (j / 1972 + 1)) (j % 1972); rw [if_neg (by omega), show (j + 1972) / 1972 = j / 1972 + 1 by omega, show (j + 1972) % 1972 = j % 1972 by omega]⟩) (by rw [h5, updv_hi]; exact if_pos rfl) (by show (if ns < 4 then ns + 1 else ns) = ns - 1 + 1; rw [if_neg (by omega)]; omega) (by omega) (by omega) (by omega) _ (lv_sub hl [1, 2, 0] rfl) _ _ (hP) (hD) hS
        · skip
          have h14 : ¬ (5916 ≤ i) := fun q => h14 ((nI_leI (by omega) (by omega)).mpr q)
          refine lv_aload_n hx hb dX5_records_17 rfl (lv_at hl 0 rfl) ?_
          refine va_get (D := G.1) (ci := 5) (v := .ref (m 2)) (C := RX5) (T := TX5) (N := 7) hx hb hts hinX5 hown hG.1 hP 0 rfl rfl 1 (by decide) hf13 (fun _ h9 => h9) rfl dX5_records_18 ?_
          refine lv_iload_n hx hb dX5_records_21 rfl (lv_at hl 2 rfl) ?_
          refine lv_aload_n hx hb dX5_records_22 rfl (lv_at hl 0 rfl) ?_
          refine va_get (D := G.1) (ci := 5) (v := .ref (m 2)) (C := RX5) (T := TX5) (N := 7) hx hb hts hinX5 hown hG.1 hP 0 rfl rfl 1 (by decide) hf13 (fun _ h9 => h9) rfl dX5_records_23 ?_
          refine lv_iload_n hx hb dX5_records_26 rfl (lv_at hl 2 rfl) ?_
          refine lv_sipush (v := nI 1972) hx hb dX5_records_27 (by decide) ?_
          refine lv_iadd hx hb dX5_records_30 ?_
          refine lv_topi (nm_r (e' := nI (i + 1972)) (nI_add _ _) ?_)
          refine va_iald hx hb hG.1 hP 2 0 rfl rfl (vp_in_nI (n := i + 1972) (N := 7888) (by omega) (by omega)) dX5_records_31 ?_
          refine lv_topi (nm_r (e' := g (i + 1972)) (by rw [nI_clamp (by omega)]) ?_)
          refine va_iast hx hb hG.1 hP hD hS 2 0 rfl rfl (vp_in_nI (n := i) (N := 7888) (by omega) (by omega)) dX5_records_32 (fun H locs hP hD hS => ?_)
          rw [nI_clamp (show i < 2 ^ 31 by omega)] at hP hD
          have hP : va_P G.1 vwCl [(m 0, .inr (5, [.ref (m 1), .ref (m 2), .ref (m 3), .int (nI ns), .ref (m 4), .int (nI len), .ref (m 5)])), (m 1, .inl (G.2.1, 1972, .inl (sF σ))), (m 2, .inl (G.2.1, 7888, .inl (upd g i (g (i + 1972))))), (m 3, .inl (G.2.1, 1972, .inl (sF ζ))), (m 4, .inl (G.2.1, 100, .inl (fun i => nI (x i)))), (m 5, .inl (G.2.1, 36, .inl B))] H := hP
          have hD : va_D (zA (wM G m σ V ζ ns x len B)) [(m 0, .inr (5, [.ref (m 1), .ref (m 2), .ref (m 3), .int (nI ns), .ref (m 4), .int (nI len), .ref (m 5)])), (m 1, .inl (G.2.1, 1972, .inl (sF σ))), (m 2, .inl (G.2.1, 7888, .inl (upd g i (g (i + 1972))))), (m 3, .inl (G.2.1, 1972, .inl (sF ζ))), (m 4, .inl (G.2.1, 100, .inl (fun i => nI (x i)))), (m 5, .inl (G.2.1, 36, .inl B))] := hD
          refine lv_iinc (v := nI (i + 1)) (lv' := [(2, .int (nI (i + 1))), (0, .ref (m 0)), (1, .int v)]) hx hb dX5_records_33 hl (k := 2) rfl (zinc1 _) (by decide) rfl (fun ls hl => ?_)
          refine lv_goto (tgt := 10) hx hb dX5_records_36 (by decide) ?_
          exact ih10 (i + 1) (upd g i (g (i + 1972))) (fun j hj => by unfold upd; split; (rename_i q; rw [q]; exact hgr _ (by omega)); exact hg j (by omega)) (fun j hj => by unfold upd; rw [if_neg (by omega)]; exact hgr j (by omega)) (by omega) (by omega) _ (lv_sub hl [1, 2, 0] rfl) _ _ (hP) (hD) hS
    exact loop10 5917 0 (wF V) (fun j hj => absurd hj (Nat.not_lt_zero j)) (fun j _ => rfl) (by omega) (by omega) _ (lv_sub hl [1, 2, 0] rfl) _ _ (hP) (hD) hS
set_option maxHeartbeats 4000000 in
set_option maxRecDepth 100000 in
theorem kX5_begins (l : Launch) (G : zG) (m : Nat → Nat) (σ : Nat → Nat) (V : Nat → Nat → Nat) (ζ : Nat → Nat) (ns : Nat) (x : Nat → Nat) (len : Nat) (B : Nat → Int32) (c : Nat) (r : Nat) (hd : va_D (fun _ => True) (wM G m σ V ζ ns x len B)) : Met l yX5_begins wsX5_begins (zRm 0 0) (zPc G [.ref (m 0), .int (nI c), .int (nI r)] (va_P G.1 vwCl (wM G m σ V ζ ns x len B))) (zQ (zA (wM G m σ V ζ ns x len B)) none (va_P G.1 vwCl (wM G m (bgn c r (σ 2) (σ 3)) V ζ ns x len B))) 0 0 (zA (wM G m σ V ζ ns x len B)) := by
  refine zmkWv (w := (wM G m σ V ζ ns x len B)) hd (cc := cX5_begins) (maxL := 5) (by decide) rfl (Nat.le_of_ble_eq_true rfl) ?_
  intro pr en st mi ar bl me cd ls Q hx hb hml hown hts hG hP hl hD hS hret
  have hown : st.vm.findClass RX5 = some mi.cls := hown
  have hl : lv_has ls 5 [(0, .ref (m 0)), (1, .int (nI c)), (2, .int (nI r))] := hl
  have hP : va_P G.1 vwCl (wM G m σ V ζ ns x len B) st.heap := hP
  have hD : va_D (zA (wM G m σ V ζ ns x len B)) (wM G m σ V ζ ns x len B) := hD
  have hinX5 : ∀ w ∈ wsX50, w ∈ wsX5_begins := by decide +kernel
  have hf7 := hts (.fieldLink RX5 7 "MapSheetsModel" "s" "[I") (by decide +kernel)
  refine lv_aload_n hx hb dX5_begins_0 rfl (lv_at hl 0 rfl) ?_
  refine va_get (D := G.1) (ci := 5) (v := .ref (m 1)) (C := RX5) (T := TX5) (N := 7) hx hb hts hinX5 hown hG.1 hP 0 rfl rfl 0 (by decide) hf7 (fun _ h9 => h9) rfl dX5_begins_1 ?_
  refine lv_iconst (v := nI 0) hx hb dX5_begins_4 (by decide) ?_
  refine lv_iload_n hx hb dX5_begins_5 rfl (lv_at hl 1 rfl) ?_
  refine va_iast hx hb hG.1 hP hD hS 1 0 rfl rfl (vp_in_nI (n := 0) (N := 1972) (by omega) (by omega)) dX5_begins_6 (fun H locs hP hD hS => ?_)
  rw [nI_clamp (show 0 < 2 ^ 31 by omega)] at hP hD
  have hP : va_P G.1 vwCl [(m 0, .inr (5, [.ref (m 1), .ref (m 2), .ref (m 3), .int (nI ns), .ref (m 4), .int (nI len), .ref (m 5)])), (m 1, .inl (G.2.1, 1972, .inl (upd (sF σ) 0 (nI c)))), (m 2, .inl (G.2.1, 7888, .inl (wF V))), (m 3, .inl (G.2.1, 1972, .inl (sF ζ))), (m 4, .inl (G.2.1, 100, .inl (fun i => nI (x i)))), (m 5, .inl (G.2.1, 36, .inl B))] H := hP
  have hD : va_D (zA (wM G m σ V ζ ns x len B)) [(m 0, .inr (5, [.ref (m 1), .ref (m 2), .ref (m 3), .int (nI ns), .ref (m 4), .int (nI len), .ref (m 5)])), (m 1, .inl (G.2.1, 1972, .inl (upd (sF σ) 0 (nI c)))), (m 2, .inl (G.2.1, 7888, .inl (wF V))), (m 3, .inl (G.2.1, 1972, .inl (sF ζ))), (m 4, .inl (G.2.1, 100, .inl (fun i => nI (x i)))), (m 5, .inl (G.2.1, 36, .inl B))] := hD
  refine lv_aload_n hx hb dX5_begins_7 rfl (lv_at hl 0 rfl) ?_
  refine va_get (D := G.1) (ci := 5) (v := .ref (m 1)) (C := RX5) (T := TX5) (N := 7) hx hb hts hinX5 hown hG.1 hP 0 rfl rfl 0 (by decide) hf7 (fun _ h9 => h9) rfl dX5_begins_8 ?_
  refine lv_iconst (v := nI 1) hx hb dX5_begins_11 (by decide) ?_
  refine lv_iload_n hx hb dX5_begins_12 rfl (lv_at hl 2 rfl) ?_
  refine va_iast hx hb hG.1 hP hD hS 1 0 rfl rfl (vp_in_nI (n := 1) (N := 1972) (by omega) (by omega)) dX5_begins_13 (fun H locs hP hD hS => ?_)
  rw [nI_clamp (show 1 < 2 ^ 31 by omega)] at hP hD
  have hP : va_P G.1 vwCl [(m 0, .inr (5, [.ref (m 1), .ref (m 2), .ref (m 3), .int (nI ns), .ref (m 4), .int (nI len), .ref (m 5)])), (m 1, .inl (G.2.1, 1972, .inl (upd (upd (sF σ) 0 (nI c)) 1 (nI r)))), (m 2, .inl (G.2.1, 7888, .inl (wF V))), (m 3, .inl (G.2.1, 1972, .inl (sF ζ))), (m 4, .inl (G.2.1, 100, .inl (fun i => nI (x i)))), (m 5, .inl (G.2.1, 36, .inl B))] H := hP
  have hD : va_D (zA (wM G m σ V ζ ns x len B)) [(m 0, .inr (5, [.ref (m 1), .ref (m 2), .ref (m 3), .int (nI ns), .ref (m 4), .int (nI len), .ref (m 5)])), (m 1, .inl (G.2.1, 1972, .inl (upd (upd (sF σ) 0 (nI c)) 1 (nI r)))), (m 2, .inl (G.2.1, 7888, .inl (wF V))), (m 3, .inl (G.2.1, 1972, .inl (sF ζ))), (m 4, .inl (G.2.1, 100, .inl (fun i => nI (x i)))), (m 5, .inl (G.2.1, 36, .inl B))] := hD
  refine lv_iconst (v := nI 4) hx hb dX5_begins_14 (by decide) ?_
  refine lv_istore_n (lv' := [(3, .int (nI 4)), (0, .ref (m 0)), (1, .int (nI c)), (2, .int (nI r))]) hx hb dX5_begins_15 rfl hl (by decide) rfl (fun ls hl => ?_)
  have loop16 : ∀ (n : Nat) (i : Nat) (g : Nat → Int32) (hg : ∀ j, j < i → g j = sF (bgn c r (σ 2) (σ 3)) j) (hi4 : 4 ≤ i) (hi : i ≤ 64) (hn : 64 < i + n) (ls : Array Slot) (hl : lv_has ls 5 [(0, .ref (m 0)), (3, .int (nI i))]) (H : Heap) (locs : List Loc) (hP : va_P G.1 vwCl [(m 0, .inr (5, [.ref (m 1), .ref (m 2), .ref (m 3), .int (nI ns), .ref (m 4), .int (nI len), .ref (m 5)])), (m 1, .inl (G.2.1, 1972, .inl g)), (m 2, .inl (G.2.1, 7888, .inl (wF V))), (m 3, .inl (G.2.1, 1972, .inl (sF ζ))), (m 4, .inl (G.2.1, 100, .inl (fun i => nI (x i)))), (m 5, .inl (G.2.1, 36, .inl B))] H) (hD : va_D (zA (wM G m σ V ζ ns x len B)) [(m 0, .inr (5, [.ref (m 1), .ref (m 2), .ref (m 3), .int (nI ns), .ref (m 4), .int (nI len), .ref (m 5)])), (m 1, .inl (G.2.1, 1972, .inl g)), (m 2, .inl (G.2.1, 7888, .inl (wF V))), (m 3, .inl (G.2.1, 1972, .inl (sF ζ))), (m 4, .inl (G.2.1, 100, .inl (fun i => nI (x i)))), (m 5, .inl (G.2.1, 36, .inl B))]) (hS : va_S (zA (wM G m σ V ζ ns x len B)) st.heap H locs), W pr l en (zRm 0 0) st mi ar bl me cd H locs 0 0 Q (F0 mi 16 ls []) := by
    intro n
    induction n with
    | zero => intro i g hg hi4 hi hn ls hl H locs hP hD hS; exfalso; omega
    | succ n ih16 =>
      intro i g hg hi4 hi hn ls hl H locs hP hD hS
      refine lv_iload_n hx hb dX5_begins_16 rfl (lv_at hl 1 rfl) ?_
      refine lv_bipush (v := nI 64) hx hb dX5_begins_17 (by decide) ?_
      refine lv_icmp_ge (tgt := 35) hx hb dX5_begins_19 (by decide) (fun h19 => ?_) (fun h19 => ?_)
      · skip
        have h19 : 64 ≤ i := (nI_leI (by omega) (by omega)).mp h19
        refine lv_iconst (v := nI 0) hx hb dX5_begins_35 (by decide) ?_
        refine lv_istore_n (lv' := [(3, .int (nI 0)), (0, .ref (m 0))]) hx hb dX5_begins_36 rfl hl (by decide) rfl (fun ls hl => ?_)
        have loop37 : ∀ (n : Nat) (k : Nat) (g : Nat → Int32) (hg : ∀ j, j < 64 + 53 * k → g j = sF (bgn c r (σ 2) (σ 3)) j) (hk : k ≤ 36) (hn : 36 < k + n) (ls : Array Slot) (hl : lv_has ls 5 [(0, .ref (m 0)), (3, .int (nI k))]) (H : Heap) (locs : List Loc) (hP : va_P G.1 vwCl [(m 0, .inr (5, [.ref (m 1), .ref (m 2), .ref (m 3), .int (nI ns), .ref (m 4), .int (nI len), .ref (m 5)])), (m 1, .inl (G.2.1, 1972, .inl g)), (m 2, .inl (G.2.1, 7888, .inl (wF V))), (m 3, .inl (G.2.1, 1972, .inl (sF ζ))), (m 4, .inl (G.2.1, 100, .inl (fun i => nI (x i)))), (m 5, .inl (G.2.1, 36, .inl B))] H) (hD : va_D (zA (wM G m σ V ζ ns x len B)) [(m 0, .inr (5, [.ref (m 1), .ref (m 2), .ref (m 3), .int (nI ns), .ref (m 4), .int (nI len), .ref (m 5)])), (m 1, .inl (G.2.1, 1972, .inl g)), (m 2, .inl (G.2.1, 7888, .inl (wF V))), (m 3, .inl (G.2.1, 1972, .inl (sF ζ))), (m 4, .inl (G.2.1, 100, .inl (fun i => nI (x i)))), (m 5, .inl (G.2.1, 36, .inl B))]) (hS : va_S (zA (wM G m σ V ζ ns x len B)) st.heap H locs), W pr l en (zRm 0 0) st mi ar bl me cd H locs 0 0 Q (F0 mi 37 ls []) := by
          intro n
          induction n with
          | zero => intro k g hg hk hn ls hl H locs hP hD hS; exfalso; omega
          | succ n ih37 =>
            intro k g hg hk hn ls hl H locs hP hD hS
            refine lv_iload_n hx hb dX5_begins_37 rfl (lv_at hl 1 rfl) ?_
            refine lv_bipush (v := nI 36) hx hb dX5_begins_38 (by decide) ?_
            refine lv_icmp_ge (tgt := 133) hx hb dX5_begins_40 (by decide) (fun h40 => ?_) (fun h40 => ?_)
            · skip
              have h40 : 36 ≤ k := (nI_leI (by omega) (by omega)).mp h40
              exact hret _ _ _ _ dX5_begins_133 hS (wM_s (fun j hj => hg j (by omega)) (fun j _ => rfl) (fun j _ => rfl) (fun j _ => rfl) hP)
            · skip
              have h40 : ¬ (36 ≤ k) := fun q => h40 ((nI_leI (by omega) (by omega)).mpr q)
              refine lv_iconst (v := nI 0) hx hb dX5_begins_43 (by decide) ?_
              refine lv_istore (lv' := [(4, .int (nI 0)), (0, .ref (m 0)), (3, .int (nI k))]) hx hb dX5_begins_44 hl (by decide) rfl (fun ls hl => ?_)
              have loop46 : ∀ (n : Nat) (w : Nat) (g : Nat → Int32) (hg : ∀ j, j < 64 + 53 * k + w → g j = sF (bgn c r (σ 2) (σ 3)) j) (hw : w ≤ 53) (hm : 53 < w + n) (ls : Array Slot) (hl : lv_has ls 5 [(0, .ref (m 0)), (3, .int (nI k)), (4, .int (nI w))]) (H : Heap) (locs : List Loc) (hP : va_P G.1 vwCl [(m 0, .inr (5, [.ref (m 1), .ref (m 2), .ref (m 3), .int (nI ns), .ref (m 4), .int (nI len), .ref (m 5)])), (m 1, .inl (G.2.1, 1972, .inl g)), (m 2, .inl (G.2.1, 7888, .inl (wF V))), (m 3, .inl (G.2.1, 1972, .inl (sF ζ))), (m 4, .inl (G.2.1, 100, .inl (fun i => nI (x i)))), (m 5, .inl (G.2.1, 36, .inl B))] H) (hD : va_D (zA (wM G m σ V ζ ns x len B)) [(m 0, .inr (5, [.ref (m 1), .ref (m 2), .ref (m 3), .int (nI ns), .ref (m 4), .int (nI len), .ref (m 5)])), (m 1, .inl (G.2.1, 1972, .inl g)), (m 2, .inl (G.2.1, 7888, .inl (wF V))), (m 3, .inl (G.2.1, 1972, .inl (sF ζ))), (m 4, .inl (G.2.1, 100, .inl (fun i => nI (x i)))), (m 5, .inl (G.2.1, 36, .inl B))]) (hS : va_S (zA (wM G m σ V ζ ns x len B)) st.heap H locs), W pr l en (zRm 0 0) st mi ar bl me cd H locs 0 0 Q (F0 mi 46 ls []) := by
                intro n
                induction n with
                | zero => intro w g hg hw hm ls hl H locs hP hD hS; exfalso; omega
                | succ n ih46 =>
                  intro w g hg hw hm ls hl H locs hP hD hS
                  refine lv_iload hx hb dX5_begins_46 (lv_at hl 2 rfl) ?_
                  refine lv_bipush (v := nI 53) hx hb dX5_begins_48 (by decide) ?_
                  refine lv_icmp_ge (tgt := 127) hx hb dX5_begins_50 (by decide) (fun h50 => ?_) (fun h50 => ?_)
                  · skip
                    have h50 : 53 ≤ w := (nI_leI (by omega) (by omega)).mp h50
                    refine lv_iinc (v := nI (k + 1)) (lv' := [(3, .int (nI (k + 1))), (0, .ref (m 0)), (4, .int (nI w))]) hx hb dX5_begins_127 hl (k := 1) rfl (zinc1 _) (by decide) rfl (fun ls hl => ?_)
                    refine lv_goto (tgt := 37) hx hb dX5_begins_130 (by decide) ?_
                    exact ih37 (k + 1) g (fun j hj => hg j (by omega)) (by omega) (by omega) _ (lv_sub hl [1, 0] rfl) _ _ (hP) (hD) hS
                  · skip
                    have h50 : ¬ (53 ≤ w) := fun q => h50 ((nI_leI (by omega) (by omega)).mpr q)
                    refine lv_aload_n hx hb dX5_begins_53 rfl (lv_at hl 0 rfl) ?_
                    refine va_get (D := G.1) (ci := 5) (v := .ref (m 1)) (C := RX5) (T := TX5) (N := 7) hx hb hts hinX5 hown hG.1 hP 0 rfl rfl 0 (by decide) hf7 (fun _ h9 => h9) rfl dX5_begins_54 ?_
                    refine lv_bipush (v := nI 64) hx hb dX5_begins_57 (by decide) ?_
                    refine lv_bipush (v := nI 53) hx hb dX5_begins_59 (by decide) ?_
                    refine lv_iload_n hx hb dX5_begins_61 rfl (lv_at hl 1 rfl) ?_
                    refine lv_imul hx hb dX5_begins_62 ?_
                    refine lv_topi (nm_r (e' := nI (53 * k)) (pk_mul _ _) ?_)
                    refine lv_iadd hx hb dX5_begins_63 ?_
                    refine lv_topi (nm_r (e' := nI (64 + (53 * k))) (nI_add _ _) ?_)
                    refine lv_iload hx hb dX5_begins_64 (lv_at hl 2 rfl) ?_
                    refine lv_iadd hx hb dX5_begins_66 ?_
                    refine lv_topi (nm_r (e' := nI ((64 + (53 * k)) + w)) (nI_add _ _) ?_)
                    refine lv_iload hx hb dX5_begins_67 (lv_at hl 2 rfl) ?_
                    refine lv_bipush (v := nI 40) hx hb dX5_begins_69 (by decide) ?_
                    refine lv_icmp_ge (tgt := 79) hx hb dX5_begins_71 (by decide) (fun h71 => ?_) (fun h71 => ?_)
                    · skip
                      have h71 : 40 ≤ w := (nI_leI (by omega) (by omega)).mp h71
                      refine lv_iload hx hb dX5_begins_79 (lv_at hl 2 rfl) ?_
                      refine lv_bipush (v := nI 50) hx hb dX5_begins_81 (by decide) ?_
                      refine lv_icmp_ge (tgt := 94) hx hb dX5_begins_83 (by decide) (fun h83 => ?_) (fun h83 => ?_)
                      · skip
                        have h83 : 50 ≤ w := (nI_leI (by omega) (by omega)).mp h83
                        refine lv_iload hx hb dX5_begins_94 (lv_at hl 2 rfl) ?_
                        refine lv_bipush (v := nI 50) hx hb dX5_begins_96 (by decide) ?_
                        refine lv_icmp_ne (tgt := 105) hx hb dX5_begins_98 (by decide) (fun h98 => ?_) (fun h98 => ?_)
                        · skip
                          have h98 : ¬ (w = 50) := fun q => h98 ((nI_eq (by omega) (by omega)).mpr q)
                          refine lv_iload hx hb dX5_begins_105 (lv_at hl 2 rfl) ?_
                          refine lv_bipush (v := nI 51) hx hb dX5_begins_107 (by decide) ?_
                          refine lv_icmp_ne (tgt := 117) hx hb dX5_begins_109 (by decide) (fun h109 => ?_) (fun h109 => ?_)
                          · skip
                            have h109 : ¬ (w = 51) := fun q => h109 ((nI_eq (by omega) (by omega)).mpr q)
                            refine lv_sipush (v := nI 1000) hx hb dX5_begins_117 (by decide) ?_
                            refine va_iast hx hb hG.1 hP hD hS 1 0 rfl rfl (vp_in_nI (n := (64 + (53 * k)) + w) (N := 1972) (by omega) (by omega)) dX5_begins_120 (fun H locs hP hD hS => ?_)
                            rw [nI_clamp (show (64 + (53 * k)) + w < 2 ^ 31 by omega)] at hP hD
                            have hP : va_P G.1 vwCl [(m 0, .inr (5, [.ref (m 1), .ref (m 2), .ref (m 3), .int (nI ns), .ref (m 4), .int (nI len), .ref (m 5)])), (m 1, .inl (G.2.1, 1972, .inl (upd g ((64 + (53 * k)) + w) (nI 1000)))), (m 2, .inl (G.2.1, 7888, .inl (wF V))), (m 3, .inl (G.2.1, 1972, .inl (sF ζ))), (m 4, .inl (G.2.1, 100, .inl (fun i => nI (x i)))), (m 5, .inl (G.2.1, 36, .inl B))] H := hP
                            have hD : va_D (zA (wM G m σ V ζ ns x len B)) [(m 0, .inr (5, [.ref (m 1), .ref (m 2), .ref (m 3), .int (nI ns), .ref (m 4), .int (nI len), .ref (m 5)])), (m 1, .inl (G.2.1, 1972, .inl (upd g ((64 + (53 * k)) + w) (nI 1000)))), (m 2, .inl (G.2.1, 7888, .inl (wF V))), (m 3, .inl (G.2.1, 1972, .inl (sF ζ))), (m 4, .inl (G.2.1, 100, .inl (fun i => nI (x i)))), (m 5, .inl (G.2.1, 36, .inl B))] := hD
                            refine lv_iinc (v := nI (w + 1)) (lv' := [(4, .int (nI (w + 1))), (0, .ref (m 0)), (3, .int (nI k))]) hx hb dX5_begins_121 hl (k := 2) rfl (zinc1 _) (by decide) rfl (fun ls hl => ?_)
                            refine lv_goto (tgt := 46) hx hb dX5_begins_124 (by decide) ?_
                            exact ih46 (w + 1) (upd g ((64 + (53 * k)) + w) (nI 1000)) (fun j hj => by unfold upd; split; (rename_i q; rw [q, bgnF (by omega)]; first | rw [if_pos (by omega)] | rw [if_neg (by omega), if_pos (by omega)] | rw [if_neg (by omega), if_neg (by omega), if_pos (by omega)] | rw [if_neg (by omega), if_neg (by omega), if_neg (by omega), if_pos (by omega)] | rw [if_neg (by omega), if_neg (by omega), if_neg (by omega), if_neg (by omega)]); exact hg j (by omega)) (by omega) (by omega) _ (lv_sub hl [1, 2, 0] rfl) _ _ (hP) (hD) hS
                          · skip
                            have h109 : w = 51 := (nI_eq (by omega) (by omega)).mp h109
                            refine lv_bipush (v := (-4)) hx hb dX5_begins_112 (by decide) ?_
                            refine lv_goto (tgt := 120) hx hb dX5_begins_114 (by decide) ?_
                            refine va_iast hx hb hG.1 hP hD hS 1 0 rfl rfl (vp_in_nI (n := (64 + (53 * k)) + w) (N := 1972) (by omega) (by omega)) dX5_begins_120 (fun H locs hP hD hS => ?_)
                            rw [nI_clamp (show (64 + (53 * k)) + w < 2 ^ 31 by omega)] at hP hD
                            have hP : va_P G.1 vwCl [(m 0, .inr (5, [.ref (m 1), .ref (m 2), .ref (m 3), .int (nI ns), .ref (m 4), .int (nI len), .ref (m 5)])), (m 1, .inl (G.2.1, 1972, .inl (upd g ((64 + (53 * k)) + w) (-4)))), (m 2, .inl (G.2.1, 7888, .inl (wF V))), (m 3, .inl (G.2.1, 1972, .inl (sF ζ))), (m 4, .inl (G.2.1, 100, .inl (fun i => nI (x i)))), (m 5, .inl (G.2.1, 36, .inl B))] H := hP
                            have hD : va_D (zA (wM G m σ V ζ ns x len B)) [(m 0, .inr (5, [.ref (m 1), .ref (m 2), .ref (m 3), .int (nI ns), .ref (m 4), .int (nI len), .ref (m 5)])), (m 1, .inl (G.2.1, 1972, .inl (upd g ((64 + (53 * k)) + w) (-4)))), (m 2, .inl (G.2.1, 7888, .inl (wF V))), (m 3, .inl (G.2.1, 1972, .inl (sF ζ))), (m 4, .inl (G.2.1, 100, .inl (fun i => nI (x i)))), (m 5, .inl (G.2.1, 36, .inl B))] := hD
                            refine lv_iinc (v := nI (w + 1)) (lv' := [(4, .int (nI (w + 1))), (0, .ref (m 0)), (3, .int (nI k))]) hx hb dX5_begins_121 hl (k := 2) rfl (zinc1 _) (by decide) rfl (fun ls hl => ?_)
                            refine lv_goto (tgt := 46) hx hb dX5_begins_124 (by decide) ?_
                            exact ih46 (w + 1) (upd g ((64 + (53 * k)) + w) (-4)) (fun j hj => by unfold upd; split; (rename_i q; rw [q, bgnF (by omega)]; first | rw [if_pos (by omega)] | rw [if_neg (by omega), if_pos (by omega)] | rw [if_neg (by omega), if_neg (by omega), if_pos (by omega)] | rw [if_neg (by omega), if_neg (by omega), if_neg (by omega), if_pos (by omega)] | rw [if_neg (by omega), if_neg (by omega), if_neg (by omega), if_neg (by omega)]); exact hg j (by omega)) (by omega) (by omega) _ (lv_sub hl [1, 2, 0] rfl) _ _ (hP) (hD) hS
                        · skip
                          have h98 : w = 50 := (nI_eq (by omega) (by omega)).mp h98
                          refine lv_iconst (v := nI 0) hx hb dX5_begins_101 (by decide) ?_
                          refine lv_goto (tgt := 120) hx hb dX5_begins_102 (by decide) ?_
                          refine va_iast hx hb hG.1 hP hD hS 1 0 rfl rfl (vp_in_nI (n := (64 + (53 * k)) + w) (N := 1972) (by omega) (by omega)) dX5_begins_120 (fun H locs hP hD hS => ?_)
                          rw [nI_clamp (show (64 + (53 * k)) + w < 2 ^ 31 by omega)] at hP hD
                          have hP : va_P G.1 vwCl [(m 0, .inr (5, [.ref (m 1), .ref (m 2), .ref (m 3), .int (nI ns), .ref (m 4), .int (nI len), .ref (m 5)])), (m 1, .inl (G.2.1, 1972, .inl (upd g ((64 + (53 * k)) + w) (nI 0)))), (m 2, .inl (G.2.1, 7888, .inl (wF V))), (m 3, .inl (G.2.1, 1972, .inl (sF ζ))), (m 4, .inl (G.2.1, 100, .inl (fun i => nI (x i)))), (m 5, .inl (G.2.1, 36, .inl B))] H := hP
                          have hD : va_D (zA (wM G m σ V ζ ns x len B)) [(m 0, .inr (5, [.ref (m 1), .ref (m 2), .ref (m 3), .int (nI ns), .ref (m 4), .int (nI len), .ref (m 5)])), (m 1, .inl (G.2.1, 1972, .inl (upd g ((64 + (53 * k)) + w) (nI 0)))), (m 2, .inl (G.2.1, 7888, .inl (wF V))), (m 3, .inl (G.2.1, 1972, .inl (sF ζ))), (m 4, .inl (G.2.1, 100, .inl (fun i => nI (x i)))), (m 5, .inl (G.2.1, 36, .inl B))] := hD
                          refine lv_iinc (v := nI (w + 1)) (lv' := [(4, .int (nI (w + 1))), (0, .ref (m 0)), (3, .int (nI k))]) hx hb dX5_begins_121 hl (k := 2) rfl (zinc1 _) (by decide) rfl (fun ls hl => ?_)
                          refine lv_goto (tgt := 46) hx hb dX5_begins_124 (by decide) ?_
                          exact ih46 (w + 1) (upd g ((64 + (53 * k)) + w) (nI 0)) (fun j hj => by unfold upd; split; (rename_i q; rw [q, bgnF (by omega)]; first | rw [if_pos (by omega)] | rw [if_neg (by omega), if_pos (by omega)] | rw [if_neg (by omega), if_neg (by omega), if_pos (by omega)] | rw [if_neg (by omega), if_neg (by omega), if_neg (by omega), if_pos (by omega)] | rw [if_neg (by omega), if_neg (by omega), if_neg (by omega), if_neg (by omega)]); exact hg j (by omega)) (by omega) (by omega) _ (lv_sub hl [1, 2, 0] rfl) _ _ (hP) (hD) hS
                      · skip
                        have h83 : ¬ (50 ≤ w) := fun q => h83 ((nI_leI (by omega) (by omega)).mpr q)
                        refine lv_iload hx hb dX5_begins_86 (lv_at hl 2 rfl) ?_
                        refine lv_bipush (v := nI 40) hx hb dX5_begins_88 (by decide) ?_
                        refine lv_isub hx hb dX5_begins_90 ?_
                        refine lv_topi (nm_r (e' := nI (w - 40)) (pk_sub (by omega)) ?_)
                        refine lv_goto (tgt := 120) hx hb dX5_begins_91 (by decide) ?_
                        refine va_iast hx hb hG.1 hP hD hS 1 0 rfl rfl (vp_in_nI (n := (64 + (53 * k)) + w) (N := 1972) (by omega) (by omega)) dX5_begins_120 (fun H locs hP hD hS => ?_)
                        rw [nI_clamp (show (64 + (53 * k)) + w < 2 ^ 31 by omega)] at hP hD
                        have hP : va_P G.1 vwCl [(m 0, .inr (5, [.ref (m 1), .ref (m 2), .ref (m 3), .int (nI ns), .ref (m 4), .int (nI len), .ref (m 5)])), (m 1, .inl (G.2.1, 1972, .inl (upd g ((64 + (53 * k)) + w) (nI (w - 40))))), (m 2, .inl (G.2.1, 7888, .inl (wF V))), (m 3, .inl (G.2.1, 1972, .inl (sF ζ))), (m 4, .inl (G.2.1, 100, .inl (fun i => nI (x i)))), (m 5, .inl (G.2.1, 36, .inl B))] H := hP
                        have hD : va_D (zA (wM G m σ V ζ ns x len B)) [(m 0, .inr (5, [.ref (m 1), .ref (m 2), .ref (m 3), .int (nI ns), .ref (m 4), .int (nI len), .ref (m 5)])), (m 1, .inl (G.2.1, 1972, .inl (upd g ((64 + (53 * k)) + w) (nI (w - 40))))), (m 2, .inl (G.2.1, 7888, .inl (wF V))), (m 3, .inl (G.2.1, 1972, .inl (sF ζ))), (m 4, .inl (G.2.1, 100, .inl (fun i => nI (x i)))), (m 5, .inl (G.2.1, 36, .inl B))] := hD
                        refine lv_iinc (v := nI (w + 1)) (lv' := [(4, .int (nI (w + 1))), (0, .ref (m 0)), (3, .int (nI k))]) hx hb dX5_begins_121 hl (k := 2) rfl (zinc1 _) (by decide) rfl (fun ls hl => ?_)
                        refine lv_goto (tgt := 46) hx hb dX5_begins_124 (by decide) ?_
                        exact ih46 (w + 1) (upd g ((64 + (53 * k)) + w) (nI (w - 40))) (fun j hj => by unfold upd; split; (rename_i q; rw [q, bgnF (by omega)]; first | rw [if_pos (by omega)] | rw [if_neg (by omega), if_pos (by omega)] | rw [if_neg (by omega), if_neg (by omega), if_pos (by omega)] | rw [if_neg (by omega), if_neg (by omega), if_neg (by omega), if_pos (by omega)] | rw [if_neg (by omega), if_neg (by omega), if_neg (by omega), if_neg (by omega)]); exact hg j (by omega)) (by omega) (by omega) _ (lv_sub hl [1, 2, 0] rfl) _ _ (hP) (hD) hS
                    · skip
                      have h71 : ¬ (40 ≤ w) := fun q => h71 ((nI_leI (by omega) (by omega)).mpr q)
                      refine lv_bipush (v := nI 10) hx hb dX5_begins_74 (by decide) ?_
                      refine lv_goto (tgt := 120) hx hb dX5_begins_76 (by decide) ?_
                      refine va_iast hx hb hG.1 hP hD hS 1 0 rfl rfl (vp_in_nI (n := (64 + (53 * k)) + w) (N := 1972) (by omega) (by omega)) dX5_begins_120 (fun H locs hP hD hS => ?_)
                      rw [nI_clamp (show (64 + (53 * k)) + w < 2 ^ 31 by omega)] at hP hD
                      have hP : va_P G.1 vwCl [(m 0, .inr (5, [.ref (m 1), .ref (m 2), .ref (m 3), .int (nI ns), .ref (m 4), .int (nI len), .ref (m 5)])), (m 1, .inl (G.2.1, 1972, .inl (upd g ((64 + (53 * k)) + w) (nI 10)))), (m 2, .inl (G.2.1, 7888, .inl (wF V))), (m 3, .inl (G.2.1, 1972, .inl (sF ζ))), (m 4, .inl (G.2.1, 100, .inl (fun i => nI (x i)))), (m 5, .inl (G.2.1, 36, .inl B))] H := hP
                      have hD : va_D (zA (wM G m σ V ζ ns x len B)) [(m 0, .inr (5, [.ref (m 1), .ref (m 2), .ref (m 3), .int (nI ns), .ref (m 4), .int (nI len), .ref (m 5)])), (m 1, .inl (G.2.1, 1972, .inl (upd g ((64 + (53 * k)) + w) (nI 10)))), (m 2, .inl (G.2.1, 7888, .inl (wF V))), (m 3, .inl (G.2.1, 1972, .inl (sF ζ))), (m 4, .inl (G.2.1, 100, .inl (fun i => nI (x i)))), (m 5, .inl (G.2.1, 36, .inl B))] := hD
                      refine lv_iinc (v := nI (w + 1)) (lv' := [(4, .int (nI (w + 1))), (0, .ref (m 0)), (3, .int (nI k))]) hx hb dX5_begins_121 hl (k := 2) rfl (zinc1 _) (by decide) rfl (fun ls hl => ?_)
                      refine lv_goto (tgt := 46) hx hb dX5_begins_124 (by decide) ?_
                      exact ih46 (w + 1) (upd g ((64 + (53 * k)) + w) (nI 10)) (fun j hj => by unfold upd; split; (rename_i q; rw [q, bgnF (by omega)]; first | rw [if_pos (by omega)] | rw [if_neg (by omega), if_pos (by omega)] | rw [if_neg (by omega), if_neg (by omega), if_pos (by omega)] | rw [if_neg (by omega), if_neg (by omega), if_neg (by omega), if_pos (by omega)] | rw [if_neg (by omega), if_neg (by omega), if_neg (by omega), if_neg (by omega)]); exact hg j (by omega)) (by omega) (by omega) _ (lv_sub hl [1, 2, 0] rfl) _ _ (hP) (hD) hS
              exact loop46 54 0 g (fun j hj => hg j (by omega)) (by omega) (by omega) _ (lv_sub hl [1, 2, 0] rfl) _ _ (hP) (hD) hS
        exact loop37 37 0 g (fun j hj => hg j (by omega)) (by omega) (by omega) _ (lv_sub hl [1, 0] rfl) _ _ (hP) (hD) hS
      · skip
        have h19 : ¬ (64 ≤ i) := fun q => h19 ((nI_leI (by omega) (by omega)).mpr q)
        refine lv_aload_n hx hb dX5_begins_22 rfl (lv_at hl 0 rfl) ?_
        refine va_get (D := G.1) (ci := 5) (v := .ref (m 1)) (C := RX5) (T := TX5) (N := 7) hx hb hts hinX5 hown hG.1 hP 0 rfl rfl 0 (by decide) hf7 (fun _ h9 => h9) rfl dX5_begins_23 ?_
        refine lv_iload_n hx hb dX5_begins_26 rfl (lv_at hl 1 rfl) ?_
        refine lv_iconst (v := nI 0) hx hb dX5_begins_27 (by decide) ?_
        refine va_iast hx hb hG.1 hP hD hS 1 0 rfl rfl (vp_in_nI (n := i) (N := 1972) (by omega) (by omega)) dX5_begins_28 (fun H locs hP hD hS => ?_)
        rw [nI_clamp (show i < 2 ^ 31 by omega)] at hP hD
        have hP : va_P G.1 vwCl [(m 0, .inr (5, [.ref (m 1), .ref (m 2), .ref (m 3), .int (nI ns), .ref (m 4), .int (nI len), .ref (m 5)])), (m 1, .inl (G.2.1, 1972, .inl (upd g i (nI 0)))), (m 2, .inl (G.2.1, 7888, .inl (wF V))), (m 3, .inl (G.2.1, 1972, .inl (sF ζ))), (m 4, .inl (G.2.1, 100, .inl (fun i => nI (x i)))), (m 5, .inl (G.2.1, 36, .inl B))] H := hP
        have hD : va_D (zA (wM G m σ V ζ ns x len B)) [(m 0, .inr (5, [.ref (m 1), .ref (m 2), .ref (m 3), .int (nI ns), .ref (m 4), .int (nI len), .ref (m 5)])), (m 1, .inl (G.2.1, 1972, .inl (upd g i (nI 0)))), (m 2, .inl (G.2.1, 7888, .inl (wF V))), (m 3, .inl (G.2.1, 1972, .inl (sF ζ))), (m 4, .inl (G.2.1, 100, .inl (fun i => nI (x i)))), (m 5, .inl (G.2.1, 36, .inl B))] := hD
        refine lv_iinc (v := nI (i + 1)) (lv' := [(3, .int (nI (i + 1))), (0, .ref (m 0))]) hx hb dX5_begins_29 hl (k := 1) rfl (zinc1 _) (by decide) rfl (fun ls hl => ?_)
        refine lv_goto (tgt := 16) hx hb dX5_begins_32 (by decide) ?_
        exact ih16 (i + 1) (upd g i (nI 0)) (fun j hj => by unfold upd; split; (rename_i q; rw [q]; unfold sF bgn; rw [if_neg (by omega), if_neg (by omega), if_neg (by omega), if_neg (by omega), if_neg (by omega), if_pos (by omega)]); exact hg j (by omega)) (by omega) (by omega) (by omega) _ (lv_sub hl [1, 0] rfl) _ _ (hP) (hD) hS
  exact loop16 61 4 (upd (upd (sF σ) 0 (nI c)) 1 (nI r)) (fun j hj => by rcases (show j = 0 ∨ j = 1 ∨ j = 2 ∨ j = 3 by omega) with q | q | q | q <;> (rw [q]; rfl)) (by omega) (by omega) (by omega) _ (lv_sub hl [1, 0] rfl) _ _ (hP) (hD) hS
set_option maxHeartbeats 4000000 in
set_option maxRecDepth 100000 in
theorem kX5_isGuarded (l : Launch) (G : zG) (m : Nat → Nat) (σ : Nat → Nat) (V : Nat → Nat → Nat) (ζ : Nat → Nat) (ns : Nat) (x : Nat → Nat) (len : Nat) (B : Nat → Int32) {N : Nat}  (hO : Ok N σ) (hd : va_D (fun _ => True) (wM G m σ V ζ ns x len B)) : Met l yX5_isGuarded wsX5_isGuarded (zRm 6 138) (zPc G [.ref (m 0)] (va_P G.1 vwCl (wM G m σ V ζ ns x len B))) (zQ (zA (wM G m σ V ζ ns x len B)) (some (.int (if ¬ (σ 2 ≠ 0 ∧ 0 < brA σ (nE σ)) then 1 else 0))) (va_P G.1 vwCl (wM G m (grs σ (nE σ)) V ζ ns x len B))) 0 0 (zA (wM G m σ V ζ ns x len B)) := by
  refine zmkWz (w := (wM G m σ V ζ ns x len B)) hd (cc := cX5_isGuarded) (maxL := 3) (by decide) rfl (Nat.le_of_ble_eq_true rfl) ?_
  intro pr en st mi ar bl me cd ls Q hx hb hml hown hts hG hP hl hD hS hret
  have hown : st.vm.findClass RX5 = some mi.cls := hown
  have hl : lv_has ls 3 [(0, .ref (m 0))] := hl
  have hP : va_P G.1 vwCl (wM G m σ V ζ ns x len B) st.heap := hP
  have hD : va_D (zA (wM G m σ V ζ ns x len B)) (wM G m σ V ζ ns x len B) := hD
  have hinX5 : ∀ w ∈ wsX50, w ∈ wsX5_isGuarded := by decide +kernel
  have hf7 := hts (.fieldLink RX5 7 "MapSheetsModel" "s" "[I") (by decide +kernel)
  have hc := hO.c
  have hs := hO.lS
  have hr := hO.lR
  have hne := hO.lE
  refine lv_iconst (v := nI 1) hx hb dX5_isGuarded_0 (by decide) ?_
  refine lv_istore_n (lv' := [(1, .int (nI 1)), (0, .ref (m 0))]) hx hb dX5_isGuarded_1 rfl hl (by decide) rfl (fun ls hl => ?_)
  refine lv_iconst (v := nI 0) hx hb dX5_isGuarded_2 (by decide) ?_
  refine lv_istore_n (lv' := [(2, .int (nI 0)), (1, .int (nI 1)), (0, .ref (m 0))]) hx hb dX5_isGuarded_3 rfl hl (by decide) rfl (fun ls hl => ?_)
  have loop4 : ∀ (n : Nat) (e : Nat) (h : Nat) (τ : Nat → Nat) (hτ : τ = grs σ e) (hh : h = (if σ 2 ≠ 0 ∧ 0 < brA σ e then 0 else 1)) (hh1 : h ≤ 1) (hOτ : Ok N τ) (hi : e ≤ nE σ) (hn : nE σ < e + n) (ls : Array Slot) (hl : lv_has ls 3 [(0, .ref (m 0)), (1, .int (nI h)), (2, .int (nI e))]) (H : Heap) (locs : List Loc) (hP : va_P G.1 vwCl (wM G m τ V ζ ns x len B) H) (hD : va_D (zA (wM G m σ V ζ ns x len B)) (wM G m τ V ζ ns x len B)) (hS : va_S (zA (wM G m σ V ζ ns x len B)) st.heap H locs), W pr l en (zRm 6 138) st mi ar bl me cd H locs 0 0 Q (F0 mi 4 ls []) := by
    intro n
    induction n with
    | zero => intro e h τ hτ hh hh1 hOτ hi hn ls hl H locs hP hD hS; exfalso; omega
    | succ n ih4 =>
      intro e h τ hτ hh hh1 hOτ hi hn ls hl H locs hP hD hS
      refine lv_iload_n hx hb dX5_isGuarded_4 rfl (lv_at hl 2 rfl) ?_
      have hq := grs_q σ e (by omega)
      rw [← hτ] at hq
      have hEq : nE τ = nE σ := by unfold nE; rw [hq.2.2 0 (by omega), hq.2.2 1 (by omega)]
      refine lv_aload_n hx hb dX5_isGuarded_5 rfl (lv_at hl 0 rfl) ?_
      refine zrdV (As := []) ⟨hx, hb, hml, hown, hts⟩ (kX5_edges l G m τ V ζ ns x len B (hOτ)) (cwV 0 hts gX5_isGuarded_X5_edges rfl rfl rfl (by decide +kernel) ⟨Nat.le_of_ble_eq_true rfl, Nat.le_of_ble_eq_true rfl⟩) hG (va_recv (q0 := 0) (ci := 5) hG.1 hP rfl rfl) (hP) rfl rfl hl.1 dX5_isGuarded_6 (Nat.le_of_ble_eq_true rfl) ⟨Nat.le_of_ble_eq_true rfl, Nat.le_of_ble_eq_true rfl⟩ ?_
      refine lv_topi (nm_r (e' := nI (nE σ)) (by rw [hEq]) ?_)
      refine lv_icmp_ge (tgt := 62) hx hb dX5_isGuarded_9 (by decide) (fun h9 => ?_) (fun h9 => ?_)
      · skip
        have h9 : (nE σ) ≤ e := (nI_leI (by omega) (by omega)).mp h9
        refine lv_iload_n hx hb dX5_isGuarded_62 rfl (lv_at hl 1 rfl) ?_
        exact hret _ _ _ _ _ dX5_isGuarded_63 hS (by obtain rfl : e = nE σ := (by omega); rw [← hτ]; exact hP) (by obtain rfl : e = nE σ := (by omega); rw [hh]; by_cases q : σ 2 ≠ 0 ∧ 0 < brA σ (nE σ); (rw [if_pos q, if_neg (fun z => z q)]; rfl); (rw [if_neg q, if_pos q]; rfl))
      · skip
        have h9 : ¬ ((nE σ) ≤ e) := fun q => h9 ((nI_leI (by omega) (by omega)).mpr q)
        have hag2 := hq.2.1 e (Nat.le_refl e)
        have hqq := hq.1 e
        have hg2 : τ 2 = σ 2 := hq.2.2 2 (by omega)
        have hsg2 := hO.2.2.1
        refine lv_aload_n hx hb dX5_isGuarded_12 rfl (lv_at hl 0 rfl) ?_
        refine lv_iload_n hx hb dX5_isGuarded_13 rfl (lv_at hl 2 rfl) ?_
        refine zrdV (As := [.int (nI e)]) ⟨hx, hb, hml, hown, hts⟩ (kX5_isAgreed l G m τ V ζ ns x len B e (hOτ) (by omega)) (cwV 1 hts gX5_isGuarded_X5_isAgreed rfl rfl rfl (by decide +kernel) ⟨Nat.le_of_ble_eq_true rfl, Nat.le_of_ble_eq_true rfl⟩) hG (va_recv (q0 := 0) (ci := 5) hG.1 hP rfl rfl) (hP) rfl rfl hl.1 dX5_isGuarded_14 (Nat.le_of_ble_eq_true rfl) ⟨Nat.le_of_ble_eq_true rfl, Nat.le_of_ble_eq_true rfl⟩ ?_
        refine lv_if_eq (tgt := 56) hx hb dX5_isGuarded_17 (by decide) (fun h17 => ?_) (fun h17 => ?_)
        · skip
          have h17 : ¬ (agn τ e = 1) := (z_b0).mp h17
          refine lv_iinc (v := nI (e + 1)) (lv' := [(2, .int (nI (e + 1))), (0, .ref (m 0)), (1, .int (nI h))]) hx hb dX5_isGuarded_56 hl (k := 2) rfl (zinc1 _) (by decide) rfl (fun ls hl => ?_)
          refine lv_goto (tgt := 4) hx hb dX5_isGuarded_59 (by decide) ?_
          exact ih4 (e + 1) h τ (by show _ = grS (grs σ e) e; rw [← hτ]; unfold grS; rw [if_neg (fun z => h17 z.1)]) (by have hbr : brA σ (e + 1) = brA σ e := (by show sm _ e + (if agn σ e = 1 ∧ 0 < qrl σ e then 1 else 0) = _; rw [if_neg (fun z => h17 (by rw [hag2]; exact z.1))]; rfl); rw [hbr]; exact hh) (by omega) (hOτ) (by omega) (by omega) _ (lv_sub hl [1, 2, 0] rfl) _ _ (hP) (hD) hS
        · skip
          have h17 : ¬ (¬ (agn τ e = 1)) := fun q => h17 ((z_b0).mpr q)
          have h17 : agn τ e = 1 := Decidable.of_not_not h17
          refine lv_aload_n hx hb dX5_isGuarded_20 rfl (lv_at hl 0 rfl) ?_
          refine lv_iload_n hx hb dX5_isGuarded_21 rfl (lv_at hl 2 rfl) ?_
          refine zrdV (As := [.int (nI e)]) ⟨hx, hb, hml, hown, hts⟩ (kX5_quarrels l G m τ V ζ ns x len B e (hOτ) (by omega)) (cwV 1 hts gX5_isGuarded_X5_quarrels rfl rfl rfl (by decide +kernel) ⟨Nat.le_of_ble_eq_true rfl, Nat.le_of_ble_eq_true rfl⟩) hG (va_recv (q0 := 0) (ci := 5) hG.1 hP rfl rfl) (hP) rfl rfl hl.1 dX5_isGuarded_22 (Nat.le_of_ble_eq_true rfl) ⟨Nat.le_of_ble_eq_true rfl, Nat.le_of_ble_eq_true rfl⟩ ?_
          have hf22_0 := qrl_le τ (e)
          refine lv_if_le (tgt := 56) hx hb dX5_isGuarded_25 (by decide) (fun h25 => ?_) (fun h25 => ?_)
          · skip
            have h25 : (qrl τ e) = 0 := (z_le0 (by omega)).mp h25
            refine lv_iinc (v := nI (e + 1)) (lv' := [(2, .int (nI (e + 1))), (0, .ref (m 0)), (1, .int (nI h))]) hx hb dX5_isGuarded_56 hl (k := 2) rfl (zinc1 _) (by decide) rfl (fun ls hl => ?_)
            refine lv_goto (tgt := 4) hx hb dX5_isGuarded_59 (by decide) ?_
            exact ih4 (e + 1) h τ (by show _ = grS (grs σ e) e; rw [← hτ]; unfold grS; rw [if_neg (fun z => by omega)]) (by have hbr : brA σ (e + 1) = brA σ e := (by show sm _ e + (if agn σ e = 1 ∧ 0 < qrl σ e then 1 else 0) = _; rw [if_neg (fun z => by omega)]; rfl); rw [hbr]; exact hh) (by omega) (hOτ) (by omega) (by omega) _ (lv_sub hl [1, 2, 0] rfl) _ _ (hP) (hD) hS
          · skip
            have h25 : ¬ ((qrl τ e) = 0) := fun q => h25 ((z_le0 (by omega)).mpr q)
            have h25 : 0 < (qrl τ e) := Nat.pos_of_ne_zero h25
            refine lv_iload_n hx hb dX5_isGuarded_28 rfl (lv_at hl 1 rfl) ?_
            refine lv_if_eq (tgt := 45) hx hb dX5_isGuarded_29 (by decide) (fun h29 => ?_) (fun h29 => ?_)
            · skip
              have h29 : h = 0 := (z_eq0 (by omega)).mp h29
              refine lv_iconst (v := nI 0) hx hb dX5_isGuarded_45 (by decide) ?_
              refine lv_istore_n (lv' := [(1, .int (nI 0)), (0, .ref (m 0)), (2, .int (nI e))]) hx hb dX5_isGuarded_46 rfl hl (by decide) rfl (fun ls hl => ?_)
              refine lv_aload_n hx hb dX5_isGuarded_47 rfl (lv_at hl 1 rfl) ?_
              refine va_get (D := G.1) (ci := 5) (v := .ref (m 1)) (C := RX5) (T := TX5) (N := 7) hx hb hts hinX5 hown hG.1 hP 0 rfl rfl 0 (by decide) hf7 (fun _ h9 => h9) rfl dX5_isGuarded_48 ?_
              refine lv_iconst (v := nI 4) hx hb dX5_isGuarded_51 (by decide) ?_
              refine lv_iload_n hx hb dX5_isGuarded_52 rfl (lv_at hl 2 rfl) ?_
              refine lv_iadd hx hb dX5_isGuarded_53 ?_
              refine lv_topi (nm_r (e' := nI (4 + e)) (nI_add _ _) ?_)
              refine lv_iconst (v := nI 0) hx hb dX5_isGuarded_54 (by decide) ?_
              refine va_iast hx hb hG.1 hP hD hS 1 0 rfl rfl (vp_in_nI (n := 4 + e) (N := 1972) (by omega) (by omega)) dX5_isGuarded_55 (fun H locs hP hD hS => ?_)
              rw [nI_clamp (show 4 + e < 2 ^ 31 by omega)] at hP hD
              rw [sF_su (by omega)] at hP hD
              have hP : va_P G.1 vwCl (wM G m (su τ (4 + e) 0) V ζ ns x len B) H := hP
              have hD : va_D (zA (wM G m σ V ζ ns x len B)) (wM G m (su τ (4 + e) 0) V ζ ns x len B) := hD
              refine lv_iinc (v := nI (e + 1)) (lv' := [(2, .int (nI (e + 1))), (1, .int (nI 0)), (0, .ref (m 0))]) hx hb dX5_isGuarded_56 hl (k := 2) rfl (zinc1 _) (by decide) rfl (fun ls hl => ?_)
              refine lv_goto (tgt := 4) hx hb dX5_isGuarded_59 (by decide) ?_
              exact ih4 (e + 1) 0 (su τ (4 + e) 0) (by show _ = grS (grs σ e) e; rw [← hτ]; unfold grS; rw [if_pos ⟨h17, by omega⟩]) (by have hbr : brA σ (e + 1) = brA σ e + 1 := (by show sm _ e + (if agn σ e = 1 ∧ 0 < qrl σ e then 1 else 0) = _; rw [if_pos ⟨by omega, by omega⟩]; rfl); rw [hbr]; refine (if_pos ⟨fun z => ?_, by omega⟩).symm; rw [if_neg (fun y => y.1 z)] at hh; omega) (by omega) (hOτ.su_ag (by omega) (by omega)) (by omega) (by omega) _ (lv_sub hl [2, 1, 0] rfl) _ _ (hP) (hD) hS
            · skip
              have h29 : ¬ (h = 0) := fun q => h29 ((z_eq0 (by omega)).mpr q)
              have h29 : 0 < h := Nat.pos_of_ne_zero h29
              refine lv_aload_n hx hb dX5_isGuarded_32 rfl (lv_at hl 0 rfl) ?_
              refine va_get (D := G.1) (ci := 5) (v := .ref (m 1)) (C := RX5) (T := TX5) (N := 7) hx hb hts hinX5 hown hG.1 hP 0 rfl rfl 0 (by decide) hf7 (fun _ h9 => h9) rfl dX5_isGuarded_33 ?_
              refine lv_iconst (v := nI 2) hx hb dX5_isGuarded_36 (by decide) ?_
              refine va_iald hx hb hG.1 hP 1 0 rfl rfl (vp_in_nI (n := 2) (N := 1972) (by omega) (by omega)) dX5_isGuarded_37 ?_
              refine lv_topi (nm_r (e' := nI (τ 2)) (by rw [nI_clamp (by omega)]; exact sF_n (by omega)) ?_)
              refine lv_if_ne (tgt := 45) hx hb dX5_isGuarded_38 (by decide) (fun h38 => ?_) (fun h38 => ?_)
              · skip
                have h38 : ¬ ((τ 2) = 0) := fun q => h38 ((z_eq0 (by omega)).mpr q)
                have h38 : 0 < (τ 2) := Nat.pos_of_ne_zero h38
                refine lv_iconst (v := nI 0) hx hb dX5_isGuarded_45 (by decide) ?_
                refine lv_istore_n (lv' := [(1, .int (nI 0)), (0, .ref (m 0)), (2, .int (nI e))]) hx hb dX5_isGuarded_46 rfl hl (by decide) rfl (fun ls hl => ?_)
                refine lv_aload_n hx hb dX5_isGuarded_47 rfl (lv_at hl 1 rfl) ?_
                refine va_get (D := G.1) (ci := 5) (v := .ref (m 1)) (C := RX5) (T := TX5) (N := 7) hx hb hts hinX5 hown hG.1 hP 0 rfl rfl 0 (by decide) hf7 (fun _ h9 => h9) rfl dX5_isGuarded_48 ?_
                refine lv_iconst (v := nI 4) hx hb dX5_isGuarded_51 (by decide) ?_
                refine lv_iload_n hx hb dX5_isGuarded_52 rfl (lv_at hl 2 rfl) ?_
                refine lv_iadd hx hb dX5_isGuarded_53 ?_
                refine lv_topi (nm_r (e' := nI (4 + e)) (nI_add _ _) ?_)
                refine lv_iconst (v := nI 0) hx hb dX5_isGuarded_54 (by decide) ?_
                refine va_iast hx hb hG.1 hP hD hS 1 0 rfl rfl (vp_in_nI (n := 4 + e) (N := 1972) (by omega) (by omega)) dX5_isGuarded_55 (fun H locs hP hD hS => ?_)
                rw [nI_clamp (show 4 + e < 2 ^ 31 by omega)] at hP hD
                rw [sF_su (by omega)] at hP hD
                have hP : va_P G.1 vwCl (wM G m (su τ (4 + e) 0) V ζ ns x len B) H := hP
                have hD : va_D (zA (wM G m σ V ζ ns x len B)) (wM G m (su τ (4 + e) 0) V ζ ns x len B) := hD
                refine lv_iinc (v := nI (e + 1)) (lv' := [(2, .int (nI (e + 1))), (1, .int (nI 0)), (0, .ref (m 0))]) hx hb dX5_isGuarded_56 hl (k := 2) rfl (zinc1 _) (by decide) rfl (fun ls hl => ?_)
                refine lv_goto (tgt := 4) hx hb dX5_isGuarded_59 (by decide) ?_
                exact ih4 (e + 1) 0 (su τ (4 + e) 0) (by show _ = grS (grs σ e) e; rw [← hτ]; unfold grS; rw [if_pos ⟨h17, by omega⟩]) (by have hbr : brA σ (e + 1) = brA σ e + 1 := (by show sm _ e + (if agn σ e = 1 ∧ 0 < qrl σ e then 1 else 0) = _; rw [if_pos ⟨by omega, by omega⟩]; rfl); rw [hbr]; exact (if_pos ⟨by omega, by omega⟩).symm) (by omega) (hOτ.su_ag (by omega) (by omega)) (by omega) (by omega) _ (lv_sub hl [2, 1, 0] rfl) _ _ (hP) (hD) hS
              · skip
                have h38 : (τ 2) = 0 := (z_eq0 (by omega)).mp h38
                refine lv_iconst (v := nI 1) hx hb dX5_isGuarded_41 (by decide) ?_
                refine lv_goto (tgt := 46) hx hb dX5_isGuarded_42 (by decide) ?_
                refine lv_istore_n (lv' := [(1, .int (nI 1)), (0, .ref (m 0)), (2, .int (nI e))]) hx hb dX5_isGuarded_46 rfl hl (by decide) rfl (fun ls hl => ?_)
                refine lv_aload_n hx hb dX5_isGuarded_47 rfl (lv_at hl 1 rfl) ?_
                refine va_get (D := G.1) (ci := 5) (v := .ref (m 1)) (C := RX5) (T := TX5) (N := 7) hx hb hts hinX5 hown hG.1 hP 0 rfl rfl 0 (by decide) hf7 (fun _ h9 => h9) rfl dX5_isGuarded_48 ?_
                refine lv_iconst (v := nI 4) hx hb dX5_isGuarded_51 (by decide) ?_
                refine lv_iload_n hx hb dX5_isGuarded_52 rfl (lv_at hl 2 rfl) ?_
                refine lv_iadd hx hb dX5_isGuarded_53 ?_
                refine lv_topi (nm_r (e' := nI (4 + e)) (nI_add _ _) ?_)
                refine lv_iconst (v := nI 0) hx hb dX5_isGuarded_54 (by decide) ?_
                refine va_iast hx hb hG.1 hP hD hS 1 0 rfl rfl (vp_in_nI (n := 4 + e) (N := 1972) (by omega) (by omega)) dX5_isGuarded_55 (fun H locs hP hD hS => ?_)
                rw [nI_clamp (show 4 + e < 2 ^ 31 by omega)] at hP hD
                rw [sF_su (by omega)] at hP hD
                have hP : va_P G.1 vwCl (wM G m (su τ (4 + e) 0) V ζ ns x len B) H := hP
                have hD : va_D (zA (wM G m σ V ζ ns x len B)) (wM G m (su τ (4 + e) 0) V ζ ns x len B) := hD
                refine lv_iinc (v := nI (e + 1)) (lv' := [(2, .int (nI (e + 1))), (1, .int (nI 1)), (0, .ref (m 0))]) hx hb dX5_isGuarded_56 hl (k := 2) rfl (zinc1 _) (by decide) rfl (fun ls hl => ?_)
                refine lv_goto (tgt := 4) hx hb dX5_isGuarded_59 (by decide) ?_
                exact ih4 (e + 1) 1 (su τ (4 + e) 0) (by show _ = grS (grs σ e) e; rw [← hτ]; unfold grS; rw [if_pos ⟨h17, by omega⟩]) (by have hbr : brA σ (e + 1) = brA σ e + 1 := (by show sm _ e + (if agn σ e = 1 ∧ 0 < qrl σ e then 1 else 0) = _; rw [if_pos ⟨by omega, by omega⟩]; rfl); rw [hbr]; exact (if_neg (fun z => z.1 (by omega))).symm) (by omega) (hOτ.su_ag (by omega) (by omega)) (by omega) (by omega) _ (lv_sub hl [2, 1, 0] rfl) _ _ (hP) (hD) hS
  exact loop4 (nE σ + 1) 0 1 σ (rfl) (by rw [if_neg (fun z => absurd z.2 (Nat.lt_irrefl 0))]) (by omega) (hO) (by omega) (by omega) _ (lv_sub hl [2, 1, 0] rfl) _ _ (hP) (hD) hS
