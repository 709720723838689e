set_option maxHeartbeats 4000000 in
set_option maxRecDepth 100000 in
theorem kX4_exchange (l : Launch) (G : zG) (n : Nat) (f : Nat → Int32) (q : Nat) (j : Nat) (v : Int32) (hj : j < n) (hn : n < 2 ^ 31) (hd : va_D (fun _ => True) [(q, .inl (G.2.1, n, .inl f))]) : Met l yX4_exchange wsX4_exchange (zRm 0 0) (zPc G [.ref q, .int (nI j), .int v] (va_P G.1 vwCl [(q, .inl (G.2.1, n, .inl f))])) (zQ (zA [(q, .inl (G.2.1, n, .inl f))]) (some (.int (f j))) (va_P G.1 vwCl [(q, .inl (G.2.1, n, .inl (upd f j v)))])) 0 0 (zA [(q, .inl (G.2.1, n, .inl f))]) := by
  refine zmkWi (w := [(q, .inl (G.2.1, n, .inl f))]) hd (cc := cX4_exchange) (maxL := 4) (by decide) rfl (Nat.le_of_ble_eq_true rfl) ?_
  intro pr en st mi ar bl me cd ls Q hx hb hml hown hts hG hP hl hD hS hret
  have hown : st.vm.findClass RX4 = some mi.cls := hown
  have hl : lv_has ls 4 [(0, .ref q), (1, .int (nI j)), (2, .int v)] := hl
  have hP : va_P G.1 vwCl [(q, .inl (G.2.1, n, .inl f))] st.heap := hP
  have hD : va_D (zA [(q, .inl (G.2.1, n, .inl f))]) [(q, .inl (G.2.1, n, .inl f))] := hD
  refine lv_iload_n hx hb dX4_exchange_0 rfl (lv_at hl 1 rfl) ?_
  refine lv_if_lt (tgt := 10) hx hb dX4_exchange_1 (by decide) (fun h1 => ?_) (fun h1 => ?_)
  · skip
    have h1 : False := (z_lt0 (by omega)).mp h1
    exfalso; omega
  · skip
    have h1 : ¬ (False) := fun q => h1 ((z_lt0 (by omega)).mpr q)
    refine lv_iload_n hx hb dX4_exchange_4 rfl (lv_at hl 1 rfl) ?_
    refine lv_aload_n hx hb dX4_exchange_5 rfl (lv_at hl 0 rfl) ?_
    refine va_alen (v := nI n) hx hb hG.1 hP 0 0 rfl rfl rfl dX4_exchange_6 ?_
    refine lv_icmp_lt (tgt := 12) hx hb dX4_exchange_7 (by decide) (fun h7 => ?_) (fun h7 => ?_)
    · skip
      have h7 : j < n := (nI_ltI (by omega) (by omega)).mp h7
      refine lv_aload_n hx hb dX4_exchange_12 rfl (lv_at hl 0 rfl) ?_
      refine lv_iload_n hx hb dX4_exchange_13 rfl (lv_at hl 1 rfl) ?_
      refine va_iald hx hb hG.1 hP 0 0 rfl rfl (vp_in_nI (n := j) (N := n) (by omega) (by omega)) dX4_exchange_14 ?_
      refine lv_topi (nm_r (e' := f j) (by rw [nI_clamp (by omega)]) ?_)
      refine lv_istore_n (lv' := [(3, .int (f j)), (0, .ref q), (1, .int (nI j)), (2, .int v)]) hx hb dX4_exchange_15 rfl hl (by decide) rfl (fun ls hl => ?_)
      refine lv_aload_n hx hb dX4_exchange_16 rfl (lv_at hl 1 rfl) ?_
      refine lv_iload_n hx hb dX4_exchange_17 rfl (lv_at hl 2 rfl) ?_
      refine lv_iload_n hx hb dX4_exchange_18 rfl (lv_at hl 3 rfl) ?_
      refine va_iast hx hb hG.1 hP hD hS 0 0 rfl rfl (vp_in_nI (n := j) (N := n) (by omega) (by omega)) dX4_exchange_19 (fun H locs hP hD hS => ?_)
      rw [nI_clamp (show j < 2 ^ 31 by omega)] at hP hD
      have hP : va_P G.1 vwCl [(q, .inl (G.2.1, n, .inl (upd f j v)))] H := hP
      have hD : va_D (zA [(q, .inl (G.2.1, n, .inl f))]) [(q, .inl (G.2.1, n, .inl (upd f j v)))] := hD
      refine lv_iload_n hx hb dX4_exchange_20 rfl (lv_at hl 0 rfl) ?_
      exact hret _ _ _ _ _ dX4_exchange_21 hS (hP) (rfl)
    · skip
      have h7 : ¬ (j < n) := fun q => h7 ((nI_ltI (by omega) (by omega)).mpr q)
      exfalso; omega
set_option maxHeartbeats 4000000 in
set_option maxRecDepth 100000 in
theorem kX0_putGuard (l : Launch) (G : zG) (a : Nat → Nat) (σ : Nat → Nat) (v : Nat) (hd : va_D (fun _ => True) (wA G a σ)) : Met l yX0_putGuard wsX0_putGuard (zRm 0 0) (zPc G [.ref (a 0), .int (nI v)] (va_P G.1 vwCl (wA G a σ))) (zQ (zA (wA G a σ)) (some (.int (nI (σ 2)))) (va_P G.1 vwCl (wA G a (su σ 2 v)))) 0 0 (zA (wA G a σ)) := by
  refine zmkWi (w := (wA G a σ)) hd (cc := cX0_putGuard) (maxL := 3) (by decide) rfl (Nat.le_of_ble_eq_true rfl) ?_
  intro pr en st mi ar bl me cd ls Q hx hb hml hown hts hG hP hl hD hS hret
  have hown : st.vm.findClass RX0 = some mi.cls := hown
  have hl : lv_has ls 3 [(0, .ref (a 0)), (1, .int (nI v))] := hl
  have hP : va_P G.1 vwCl (wA G a σ) st.heap := hP
  have hD : va_D (zA (wA G a σ)) (wA G a σ) := hD
  have hinX0 : ∀ w ∈ wsX00, w ∈ wsX0_putGuard := by decide +kernel
  have hf30 := hts (.fieldLink RX0 30 "MapSheets$Atlas" "guard" "I") (by decide +kernel)
  refine lv_aload_n hx hb dX0_putGuard_0 rfl (lv_at hl 0 rfl) ?_
  refine va_get (D := G.1) (ci := 0) (v := .int (nI (σ 2))) (C := RX0) (T := TX0) (N := 10) hx hb hts hinX0 hown hG.1 hP 0 rfl rfl 8 (by decide) hf30 (fun _ h9 => h9) rfl dX0_putGuard_1 ?_
  refine lv_istore_n (lv' := [(2, .int (nI (σ 2))), (0, .ref (a 0)), (1, .int (nI v))]) hx hb dX0_putGuard_4 rfl hl (by decide) rfl (fun ls hl => ?_)
  refine lv_aload_n hx hb dX0_putGuard_5 rfl (lv_at hl 1 rfl) ?_
  refine lv_iload_n hx hb dX0_putGuard_6 rfl (lv_at hl 2 rfl) ?_
  refine va_put (D := G.1) (ci := 0) (v := .int (nI v)) (ty := .int) (C := RX0) (T := TX0) (N := 10) hx hb hts hinX0 tyX0 tyX0_ok nmX0 hown hG.1 hP hD hS 0 rfl rfl 8 (by decide) hf30 (fun _ h9 => h9) rfl (by decide +kernel) rfl rfl (Nat.le_of_ble_eq_true rfl) dX0_putGuard_7 (fun H locs hP hD hS => ?_)
  have hP : va_P G.1 vwCl [(a 0, .inr (0, [.ref (a 1), .ref (a 2), .ref (a 3), .ref (a 4), .ref (a 5), .ref (a 6), .int (nI (σ 0)), .int (nI (σ 1)), .int (nI v), .int (nI (σ 3))])), (a 1, .inl (G.2.1, 1440, .inl (fun i => nI (sgF σ i)))), (a 2, .inl (G.2.1, 360, .inl (fun i => nI (mnF σ i)))), (a 3, .inl (G.2.1, 36, .inl (fun k => nI (rvn σ k)))), (a 4, .inl (G.2.1, 36, .inl (fun k => pbF σ k))), (a 5, .inl (G.2.1, 36, .inl (fun k => nI (scn σ k)))), (a 6, .inl (G.2.1, 60, .inl (fun e => nI (agF σ e))))] H := hP
  have hD : va_D (zA (wA G a σ)) [(a 0, .inr (0, [.ref (a 1), .ref (a 2), .ref (a 3), .ref (a 4), .ref (a 5), .ref (a 6), .int (nI (σ 0)), .int (nI (σ 1)), .int (nI v), .int (nI (σ 3))])), (a 1, .inl (G.2.1, 1440, .inl (fun i => nI (sgF σ i)))), (a 2, .inl (G.2.1, 360, .inl (fun i => nI (mnF σ i)))), (a 3, .inl (G.2.1, 36, .inl (fun k => nI (rvn σ k)))), (a 4, .inl (G.2.1, 36, .inl (fun k => pbF σ k))), (a 5, .inl (G.2.1, 36, .inl (fun k => nI (scn σ k)))), (a 6, .inl (G.2.1, 60, .inl (fun e => nI (agF σ e))))] := hD
  refine lv_iload_n hx hb dX0_putGuard_10 rfl (lv_at hl 0 rfl) ?_
  exact hret _ _ _ _ _ dX0_putGuard_11 hS (by rw [wA_23 G a σ (by omega)]; exact hP) (congrArg nI (rfl))
set_option maxHeartbeats 4000000 in
set_option maxRecDepth 100000 in
theorem kX0_putTolerance (l : Launch) (G : zG) (a : Nat → Nat) (σ : Nat → Nat) (v : Nat) (hd : va_D (fun _ => True) (wA G a σ)) : Met l yX0_putTolerance wsX0_putTolerance (zRm 0 0) (zPc G [.ref (a 0), .int (nI v)] (va_P G.1 vwCl (wA G a σ))) (zQ (zA (wA G a σ)) (some (.int (nI (σ 3)))) (va_P G.1 vwCl (wA G a (su σ 3 v)))) 0 0 (zA (wA G a σ)) := by
  refine zmkWi (w := (wA G a σ)) hd (cc := cX0_putTolerance) (maxL := 3) (by decide) rfl (Nat.le_of_ble_eq_true rfl) ?_
  intro pr en st mi ar bl me cd ls Q hx hb hml hown hts hG hP hl hD hS hret
  have hown : st.vm.findClass RX0 = some mi.cls := hown
  have hl : lv_has ls 3 [(0, .ref (a 0)), (1, .int (nI v))] := hl
  have hP : va_P G.1 vwCl (wA G a σ) st.heap := hP
  have hD : va_D (zA (wA G a σ)) (wA G a σ) := hD
  have hinX0 : ∀ w ∈ wsX00, w ∈ wsX0_putTolerance := by decide +kernel
  have hf34 := hts (.fieldLink RX0 34 "MapSheets$Atlas" "tolerance" "I") (by decide +kernel)
  refine lv_aload_n hx hb dX0_putTolerance_0 rfl (lv_at hl 0 rfl) ?_
  refine va_get (D := G.1) (ci := 0) (v := .int (nI (σ 3))) (C := RX0) (T := TX0) (N := 10) hx hb hts hinX0 hown hG.1 hP 0 rfl rfl 9 (by decide) hf34 (fun _ h9 => h9) rfl dX0_putTolerance_1 ?_
  refine lv_istore_n (lv' := [(2, .int (nI (σ 3))), (0, .ref (a 0)), (1, .int (nI v))]) hx hb dX0_putTolerance_4 rfl hl (by decide) rfl (fun ls hl => ?_)
  refine lv_aload_n hx hb dX0_putTolerance_5 rfl (lv_at hl 1 rfl) ?_
  refine lv_iload_n hx hb dX0_putTolerance_6 rfl (lv_at hl 2 rfl) ?_
  refine va_put (D := G.1) (ci := 0) (v := .int (nI v)) (ty := .int) (C := RX0) (T := TX0) (N := 10) hx hb hts hinX0 tyX0 tyX0_ok nmX0 hown hG.1 hP hD hS 0 rfl rfl 9 (by decide) hf34 (fun _ h9 => h9) rfl (by decide +kernel) rfl rfl (Nat.le_of_ble_eq_true rfl) dX0_putTolerance_7 (fun H locs hP hD hS => ?_)
  have hP : va_P G.1 vwCl [(a 0, .inr (0, [.ref (a 1), .ref (a 2), .ref (a 3), .ref (a 4), .ref (a 5), .ref (a 6), .int (nI (σ 0)), .int (nI (σ 1)), .int (nI (σ 2)), .int (nI v)])), (a 1, .inl (G.2.1, 1440, .inl (fun i => nI (sgF σ i)))), (a 2, .inl (G.2.1, 360, .inl (fun i => nI (mnF σ i)))), (a 3, .inl (G.2.1, 36, .inl (fun k => nI (rvn σ k)))), (a 4, .inl (G.2.1, 36, .inl (fun k => pbF σ k))), (a 5, .inl (G.2.1, 36, .inl (fun k => nI (scn σ k)))), (a 6, .inl (G.2.1, 60, .inl (fun e => nI (agF σ e))))] H := hP
  have hD : va_D (zA (wA G a σ)) [(a 0, .inr (0, [.ref (a 1), .ref (a 2), .ref (a 3), .ref (a 4), .ref (a 5), .ref (a 6), .int (nI (σ 0)), .int (nI (σ 1)), .int (nI (σ 2)), .int (nI v)])), (a 1, .inl (G.2.1, 1440, .inl (fun i => nI (sgF σ i)))), (a 2, .inl (G.2.1, 360, .inl (fun i => nI (mnF σ i)))), (a 3, .inl (G.2.1, 36, .inl (fun k => nI (rvn σ k)))), (a 4, .inl (G.2.1, 36, .inl (fun k => pbF σ k))), (a 5, .inl (G.2.1, 36, .inl (fun k => nI (scn σ k)))), (a 6, .inl (G.2.1, 60, .inl (fun e => nI (agF σ e))))] := hD
  refine lv_iload_n hx hb dX0_putTolerance_10 rfl (lv_at hl 0 rfl) ?_
  exact hret _ _ _ _ _ dX0_putTolerance_11 hS (by rw [wA_23 G a σ (by omega)]; exact hP) (congrArg nI (rfl))
set_option maxHeartbeats 4000000 in
set_option maxRecDepth 100000 in
theorem kX0_putSign (l : Launch) (G : zG) (a : Nat → Nat) (σ : Nat → Nat) (k : Nat) (d : Nat) (p : Nat) (v : Nat) (hk : k < 36) (hd4 : d < 4) (hp : p < 10) (hd : va_D (fun _ => True) (wA G a σ)) : Met l yX0_putSign wsX0_putSign (zRm 1 23) (zPc G [.ref (a 0), .int (nI k), .int (nI d), .int (nI p), .int (nI v)] (va_P G.1 vwCl (wA G a σ))) (zQ (zA (wA G a σ)) (some (.int (nI (sgn σ k d p)))) (va_P G.1 vwCl (wA G a (su σ (64 + 53 * k + (10 * d + p)) v)))) 0 0 (zA (wA G a σ)) := by
  refine zmkWi (w := (wA G a σ)) hd (cc := cX0_putSign) (maxL := 5) (by decide) rfl (Nat.le_of_ble_eq_true rfl) ?_
  intro pr en st mi ar bl me cd ls Q hx hb hml hown hts hG hP hl hD hS hret
  have hown : st.vm.findClass RX0 = some mi.cls := hown
  have hl : lv_has ls 5 [(0, .ref (a 0)), (1, .int (nI k)), (2, .int (nI d)), (3, .int (nI p)), (4, .int (nI v))] := hl
  have hP : va_P G.1 vwCl (wA G a σ) st.heap := hP
  have hD : va_D (zA (wA G a σ)) (wA G a σ) := hD
  have hinX0 : ∀ w ∈ wsX00, w ∈ wsX0_putSign := by decide +kernel
  have hf9 := hts (.fieldLink RX0 9 "MapSheets$Atlas" "signs" "[I") (by decide +kernel)
  have hz97 : Cond.initialized RX4 ∈ wsX0_putSign := by decide +kernel
  have hy97 : Cond.static yX4_exchange ∈ wsX0_putSign := by decide +kernel
  refine lv_aload_n hx hb dX0_putSign_0 rfl (lv_at hl 0 rfl) ?_
  refine va_get (D := G.1) (ci := 0) (v := .ref (a 1)) (C := RX0) (T := TX0) (N := 10) hx hb hts hinX0 hown hG.1 hP 0 rfl rfl 0 (by decide) hf9 (fun _ h9 => h9) rfl dX0_putSign_1 ?_
  refine lv_iload_n hx hb dX0_putSign_4 rfl (lv_at hl 1 rfl) ?_
  refine lv_iload_n hx hb dX0_putSign_5 rfl (lv_at hl 2 rfl) ?_
  refine lv_iload_n hx hb dX0_putSign_6 rfl (lv_at hl 3 rfl) ?_
  refine zrdS (As := [.int (nI k), .int (nI d), .int (nI p)]) ⟨hx, hb, hml, hown, hts⟩ (kX0_placeOf l G  k d p) (va_cwS 3 hts gX0_putSign_X0_placeOf rfl rfl rfl (by decide +kernel) ⟨Nat.le_of_ble_eq_true rfl, Nat.le_of_ble_eq_true rfl⟩) hG (trivial) rfl rfl hl.1 dX0_putSign_7 (Nat.le_of_ble_eq_true rfl) ⟨Nat.le_of_ble_eq_true rfl, Nat.le_of_ble_eq_true rfl⟩ ?_
  refine lv_iload hx hb dX0_putSign_10 (lv_at hl 4 rfl) ?_
  refine zwrM (G := G) (w1 := [(a 0, .inr (0, [.ref (a 1), .ref (a 2), .ref (a 3), .ref (a 4), .ref (a 5), .ref (a 6), .int (nI (σ 0)), .int (nI (σ 1)), .int (nI (σ 2)), .int (nI (σ 3))]))]) (wc := [(a 1, .inl (G.2.1, 1440, .inl (fun i => nI (sgF σ i))))]) (wc' := [(a 1, .inl (G.2.1, 1440, .inl (upd (fun i => nI (sgF σ i)) ((k * 4 + d) * 10 + p) (nI v))))]) (w2 := [(a 2, .inl (G.2.1, 360, .inl (fun i => nI (mnF σ i)))), (a 3, .inl (G.2.1, 36, .inl (fun k => nI (rvn σ k)))), (a 4, .inl (G.2.1, 36, .inl (fun k => pbF σ k))), (a 5, .inl (G.2.1, 36, .inl (fun k => nI (scn σ k)))), (a 6, .inl (G.2.1, 60, .inl (fun e => nI (agF σ e))))]) (va_runSN (As := [.ref (a 1), .int (nI ((k * 4 + d) * 10 + p)), .int (nI v)]) (rest := []) ⟨hx, hb, hml, hown, hts⟩ (kX4_exchange l G 1440 (fun i => nI (sgF σ i)) (a 1) ((k * 4 + d) * 10 + p) (nI v) (by omega) (by omega) (zD_any (zD_m (w1 := [(a 0, .inr (0, [.ref (a 1), .ref (a 2), .ref (a 3), .ref (a 4), .ref (a 5), .ref (a 6), .int (nI (σ 0)), .int (nI (σ 1)), .int (nI (σ 2)), .int (nI (σ 3))]))]) (wc := [(a 1, .inl (G.2.1, 1440, .inl (fun i => nI (sgF σ i))))]) (w2 := [(a 2, .inl (G.2.1, 360, .inl (fun i => nI (mnF σ i)))), (a 3, .inl (G.2.1, 36, .inl (fun k => nI (rvn σ k)))), (a 4, .inl (G.2.1, 36, .inl (fun k => pbF σ k))), (a 5, .inl (G.2.1, 36, .inl (fun k => nI (scn σ k)))), (a 6, .inl (G.2.1, 60, .inl (fun e => nI (agF σ e))))]) hD))) ⟨va_cnB 3 hts gX0_putSign_X4_exchange_n97 rfl rfl rfl (hG.2.2.2.2.2.1) (hts _ hz97) (by decide +kernel) ⟨Nat.le_of_ble_eq_true rfl, Nat.le_of_ble_eq_true rfl⟩, hts _ hy97, trivial⟩ (zPre hG (hP.sub [1] rfl)) rfl rfl hl.1 rfl (lv_room (Nat.le_of_ble_eq_true rfl)) dX0_putSign_12 ⟨Nat.le_of_ble_eq_true rfl, Nat.le_of_ble_eq_true rfl⟩) hP hD hS rfl (fun H locs hP hD hS => ?_)
  have hP : va_P G.1 vwCl [(a 0, .inr (0, [.ref (a 1), .ref (a 2), .ref (a 3), .ref (a 4), .ref (a 5), .ref (a 6), .int (nI (σ 0)), .int (nI (σ 1)), .int (nI (σ 2)), .int (nI (σ 3))])), (a 1, .inl (G.2.1, 1440, .inl (upd (fun i => nI (sgF σ i)) ((k * 4 + d) * 10 + p) (nI v)))), (a 2, .inl (G.2.1, 360, .inl (fun i => nI (mnF σ i)))), (a 3, .inl (G.2.1, 36, .inl (fun k => nI (rvn σ k)))), (a 4, .inl (G.2.1, 36, .inl (fun k => pbF σ k))), (a 5, .inl (G.2.1, 36, .inl (fun k => nI (scn σ k)))), (a 6, .inl (G.2.1, 60, .inl (fun e => nI (agF σ e))))] H := hP
  have hD : va_D (zA (wA G a σ)) [(a 0, .inr (0, [.ref (a 1), .ref (a 2), .ref (a 3), .ref (a 4), .ref (a 5), .ref (a 6), .int (nI (σ 0)), .int (nI (σ 1)), .int (nI (σ 2)), .int (nI (σ 3))])), (a 1, .inl (G.2.1, 1440, .inl (upd (fun i => nI (sgF σ i)) ((k * 4 + d) * 10 + p) (nI v)))), (a 2, .inl (G.2.1, 360, .inl (fun i => nI (mnF σ i)))), (a 3, .inl (G.2.1, 36, .inl (fun k => nI (rvn σ k)))), (a 4, .inl (G.2.1, 36, .inl (fun k => pbF σ k))), (a 5, .inl (G.2.1, 36, .inl (fun k => nI (scn σ k)))), (a 6, .inl (G.2.1, 60, .inl (fun e => nI (agF σ e))))] := hD
  exact hret _ _ _ _ _ dX0_putSign_15 hS (by rw [wA_sg G a σ hd4 hp]; exact hP) (congrArg nI (sgF_at σ hd4 hp))
set_option maxHeartbeats 4000000 in
set_option maxRecDepth 100000 in
theorem kX0_putMeaning (l : Launch) (G : zG) (a : Nat → Nat) (σ : Nat → Nat) (k : Nat) (g : Nat) (v : Nat) (hk : k < 36) (hg : g < 10) (hd : va_D (fun _ => True) (wA G a σ)) : Met l yX0_putMeaning wsX0_putMeaning (zRm 1 23) (zPc G [.ref (a 0), .int (nI k), .int (nI g), .int (nI v)] (va_P G.1 vwCl (wA G a σ))) (zQ (zA (wA G a σ)) (some (.int (nI (mng σ k g)))) (va_P G.1 vwCl (wA G a (su σ (104 + 53 * k + g) v)))) 0 0 (zA (wA G a σ)) := by
  refine zmkWi (w := (wA G a σ)) hd (cc := cX0_putMeaning) (maxL := 4) (by decide) rfl (Nat.le_of_ble_eq_true rfl) ?_
  intro pr en st mi ar bl me cd ls Q hx hb hml hown hts hG hP hl hD hS hret
  have hown : st.vm.findClass RX0 = some mi.cls := hown
  have hl : lv_has ls 4 [(0, .ref (a 0)), (1, .int (nI k)), (2, .int (nI g)), (3, .int (nI v))] := hl
  have hP : va_P G.1 vwCl (wA G a σ) st.heap := hP
  have hD : va_D (zA (wA G a σ)) (wA G a σ) := hD
  have hinX0 : ∀ w ∈ wsX00, w ∈ wsX0_putMeaning := by decide +kernel
  have hf15 := hts (.fieldLink RX0 15 "MapSheets$Atlas" "meanings" "[I") (by decide +kernel)
  have hz97 : Cond.initialized RX4 ∈ wsX0_putMeaning := by decide +kernel
  have hy97 : Cond.static yX4_exchange ∈ wsX0_putMeaning := by decide +kernel
  refine lv_aload_n hx hb dX0_putMeaning_0 rfl (lv_at hl 0 rfl) ?_
  refine va_get (D := G.1) (ci := 0) (v := .ref (a 2)) (C := RX0) (T := TX0) (N := 10) hx hb hts hinX0 hown hG.1 hP 0 rfl rfl 1 (by decide) hf15 (fun _ h9 => h9) rfl dX0_putMeaning_1 ?_
  refine lv_iload_n hx hb dX0_putMeaning_4 rfl (lv_at hl 1 rfl) ?_
  refine lv_bipush (v := nI 10) hx hb dX0_putMeaning_5 (by decide) ?_
  refine lv_imul hx hb dX0_putMeaning_7 ?_
  refine lv_topi (nm_r (e' := nI (k * 10)) (pk_mul _ _) ?_)
  refine lv_iload_n hx hb dX0_putMeaning_8 rfl (lv_at hl 2 rfl) ?_
  refine lv_iadd hx hb dX0_putMeaning_9 ?_
  refine lv_topi (nm_r (e' := nI ((k * 10) + g)) (nI_add _ _) ?_)
  refine lv_iload_n hx hb dX0_putMeaning_10 rfl (lv_at hl 3 rfl) ?_
  refine zwrM (G := G) (w1 := [(a 0, .inr (0, [.ref (a 1), .ref (a 2), .ref (a 3), .ref (a 4), .ref (a 5), .ref (a 6), .int (nI (σ 0)), .int (nI (σ 1)), .int (nI (σ 2)), .int (nI (σ 3))])), (a 1, .inl (G.2.1, 1440, .inl (fun i => nI (sgF σ i))))]) (wc := [(a 2, .inl (G.2.1, 360, .inl (fun i => nI (mnF σ i))))]) (wc' := [(a 2, .inl (G.2.1, 360, .inl (upd (fun i => nI (mnF σ i)) ((k * 10) + g) (nI v))))]) (w2 := [(a 3, .inl (G.2.1, 36, .inl (fun k => nI (rvn σ k)))), (a 4, .inl (G.2.1, 36, .inl (fun k => pbF σ k))), (a 5, .inl (G.2.1, 36, .inl (fun k => nI (scn σ k)))), (a 6, .inl (G.2.1, 60, .inl (fun e => nI (agF σ e))))]) (va_runSN (As := [.ref (a 2), .int (nI ((k * 10) + g)), .int (nI v)]) (rest := []) ⟨hx, hb, hml, hown, hts⟩ (kX4_exchange l G 360 (fun i => nI (mnF σ i)) (a 2) ((k * 10) + g) (nI v) (by omega) (by omega) (zD_any (zD_m (w1 := [(a 0, .inr (0, [.ref (a 1), .ref (a 2), .ref (a 3), .ref (a 4), .ref (a 5), .ref (a 6), .int (nI (σ 0)), .int (nI (σ 1)), .int (nI (σ 2)), .int (nI (σ 3))])), (a 1, .inl (G.2.1, 1440, .inl (fun i => nI (sgF σ i))))]) (wc := [(a 2, .inl (G.2.1, 360, .inl (fun i => nI (mnF σ i))))]) (w2 := [(a 3, .inl (G.2.1, 36, .inl (fun k => nI (rvn σ k)))), (a 4, .inl (G.2.1, 36, .inl (fun k => pbF σ k))), (a 5, .inl (G.2.1, 36, .inl (fun k => nI (scn σ k)))), (a 6, .inl (G.2.1, 60, .inl (fun e => nI (agF σ e))))]) hD))) ⟨va_cnB 3 hts gX0_putMeaning_X4_exchange_n97 rfl rfl rfl (hG.2.2.2.2.2.1) (hts _ hz97) (by decide +kernel) ⟨Nat.le_of_ble_eq_true rfl, Nat.le_of_ble_eq_true rfl⟩, hts _ hy97, trivial⟩ (zPre hG (hP.sub [2] rfl)) rfl rfl hl.1 rfl (lv_room (Nat.le_of_ble_eq_true rfl)) dX0_putMeaning_11 ⟨Nat.le_of_ble_eq_true rfl, Nat.le_of_ble_eq_true rfl⟩) hP hD hS rfl (fun H locs hP hD hS => ?_)
  have hP : va_P G.1 vwCl [(a 0, .inr (0, [.ref (a 1), .ref (a 2), .ref (a 3), .ref (a 4), .ref (a 5), .ref (a 6), .int (nI (σ 0)), .int (nI (σ 1)), .int (nI (σ 2)), .int (nI (σ 3))])), (a 1, .inl (G.2.1, 1440, .inl (fun i => nI (sgF σ i)))), (a 2, .inl (G.2.1, 360, .inl (upd (fun i => nI (mnF σ i)) ((k * 10) + g) (nI v)))), (a 3, .inl (G.2.1, 36, .inl (fun k => nI (rvn σ k)))), (a 4, .inl (G.2.1, 36, .inl (fun k => pbF σ k))), (a 5, .inl (G.2.1, 36, .inl (fun k => nI (scn σ k)))), (a 6, .inl (G.2.1, 60, .inl (fun e => nI (agF σ e))))] H := hP
  have hD : va_D (zA (wA G a σ)) [(a 0, .inr (0, [.ref (a 1), .ref (a 2), .ref (a 3), .ref (a 4), .ref (a 5), .ref (a 6), .int (nI (σ 0)), .int (nI (σ 1)), .int (nI (σ 2)), .int (nI (σ 3))])), (a 1, .inl (G.2.1, 1440, .inl (fun i => nI (sgF σ i)))), (a 2, .inl (G.2.1, 360, .inl (upd (fun i => nI (mnF σ i)) ((k * 10) + g) (nI v)))), (a 3, .inl (G.2.1, 36, .inl (fun k => nI (rvn σ k)))), (a 4, .inl (G.2.1, 36, .inl (fun k => pbF σ k))), (a 5, .inl (G.2.1, 36, .inl (fun k => nI (scn σ k)))), (a 6, .inl (G.2.1, 60, .inl (fun e => nI (agF σ e))))] := hD
  exact hret _ _ _ _ _ dX0_putMeaning_14 hS (by rw [wA_mn G a σ hg]; exact hP) (congrArg nI (mnF_at σ hg))
set_option maxHeartbeats 4000000 in
set_option maxRecDepth 100000 in
theorem kX0_putAgreed (l : Launch) (G : zG) (a : Nat → Nat) (σ : Nat → Nat) (e : Nat) (v : Nat) (he : e < 60) (hd : va_D (fun _ => True) (wA G a σ)) : Met l yX0_putAgreed wsX0_putAgreed (zRm 1 23) (zPc G [.ref (a 0), .int (nI e), .int (nI v)] (va_P G.1 vwCl (wA G a σ))) (zQ (zA (wA G a σ)) (some (.int (nI (agn σ e)))) (va_P G.1 vwCl (wA G a (su σ (4 + e) v)))) 0 0 (zA (wA G a σ)) := by
  refine zmkWi (w := (wA G a σ)) hd (cc := cX0_putAgreed) (maxL := 3) (by decide) rfl (Nat.le_of_ble_eq_true rfl) ?_
  intro pr en st mi ar bl me cd ls Q hx hb hml hown hts hG hP hl hD hS hret
  have hown : st.vm.findClass RX0 = some mi.cls := hown
  have hl : lv_has ls 3 [(0, .ref (a 0)), (1, .int (nI e)), (2, .int (nI v))] := hl
  have hP : va_P G.1 vwCl (wA G a σ) st.heap := hP
  have hD : va_D (zA (wA G a σ)) (wA G a σ) := hD
  have hinX0 : ∀ w ∈ wsX00, w ∈ wsX0_putAgreed := by decide +kernel
  have hf27 := hts (.fieldLink RX0 27 "MapSheets$Atlas" "agreed" "[I") (by decide +kernel)
  have hz97 : Cond.initialized RX4 ∈ wsX0_putAgreed := by decide +kernel
  have hy97 : Cond.static yX4_exchange ∈ wsX0_putAgreed := by decide +kernel
  refine lv_aload_n hx hb dX0_putAgreed_0 rfl (lv_at hl 0 rfl) ?_
  refine va_get (D := G.1) (ci := 0) (v := .ref (a 6)) (C := RX0) (T := TX0) (N := 10) hx hb hts hinX0 hown hG.1 hP 0 rfl rfl 5 (by decide) hf27 (fun _ h9 => h9) rfl dX0_putAgreed_1 ?_
  refine lv_iload_n hx hb dX0_putAgreed_4 rfl (lv_at hl 1 rfl) ?_
  refine lv_iload_n hx hb dX0_putAgreed_5 rfl (lv_at hl 2 rfl) ?_
  refine zwrM (G := G) (w1 := [(a 0, .inr (0, [.ref (a 1), .ref (a 2), .ref (a 3), .ref (a 4), .ref (a 5), .ref (a 6), .int (nI (σ 0)), .int (nI (σ 1)), .int (nI (σ 2)), .int (nI (σ 3))])), (a 1, .inl (G.2.1, 1440, .inl (fun i => nI (sgF σ i)))), (a 2, .inl (G.2.1, 360, .inl (fun i => nI (mnF σ i)))), (a 3, .inl (G.2.1, 36, .inl (fun k => nI (rvn σ k)))), (a 4, .inl (G.2.1, 36, .inl (fun k => pbF σ k))), (a 5, .inl (G.2.1, 36, .inl (fun k => nI (scn σ k))))]) (wc := [(a 6, .inl (G.2.1, 60, .inl (fun e => nI (agF σ e))))]) (wc' := [(a 6, .inl (G.2.1, 60, .inl (upd (fun e => nI (agF σ e)) e (nI v))))]) (w2 := []) (va_runSN (As := [.ref (a 6), .int (nI e), .int (nI v)]) (rest := []) ⟨hx, hb, hml, hown, hts⟩ (kX4_exchange l G 60 (fun e => nI (agF σ e)) (a 6) e (nI v) (by omega) (by omega) (zD_any (zD_m (w1 := [(a 0, .inr (0, [.ref (a 1), .ref (a 2), .ref (a 3), .ref (a 4), .ref (a 5), .ref (a 6), .int (nI (σ 0)), .int (nI (σ 1)), .int (nI (σ 2)), .int (nI (σ 3))])), (a 1, .inl (G.2.1, 1440, .inl (fun i => nI (sgF σ i)))), (a 2, .inl (G.2.1, 360, .inl (fun i => nI (mnF σ i)))), (a 3, .inl (G.2.1, 36, .inl (fun k => nI (rvn σ k)))), (a 4, .inl (G.2.1, 36, .inl (fun k => pbF σ k))), (a 5, .inl (G.2.1, 36, .inl (fun k => nI (scn σ k))))]) (wc := [(a 6, .inl (G.2.1, 60, .inl (fun e => nI (agF σ e))))]) (w2 := []) hD))) ⟨va_cnB 3 hts gX0_putAgreed_X4_exchange_n97 rfl rfl rfl (hG.2.2.2.2.2.1) (hts _ hz97) (by decide +kernel) ⟨Nat.le_of_ble_eq_true rfl, Nat.le_of_ble_eq_true rfl⟩, hts _ hy97, trivial⟩ (zPre hG (hP.sub [6] rfl)) rfl rfl hl.1 rfl (lv_room (Nat.le_of_ble_eq_true rfl)) dX0_putAgreed_6 ⟨Nat.le_of_ble_eq_true rfl, Nat.le_of_ble_eq_true rfl⟩) hP hD hS rfl (fun H locs hP hD hS => ?_)
  have hP : va_P G.1 vwCl [(a 0, .inr (0, [.ref (a 1), .ref (a 2), .ref (a 3), .ref (a 4), .ref (a 5), .ref (a 6), .int (nI (σ 0)), .int (nI (σ 1)), .int (nI (σ 2)), .int (nI (σ 3))])), (a 1, .inl (G.2.1, 1440, .inl (fun i => nI (sgF σ i)))), (a 2, .inl (G.2.1, 360, .inl (fun i => nI (mnF σ i)))), (a 3, .inl (G.2.1, 36, .inl (fun k => nI (rvn σ k)))), (a 4, .inl (G.2.1, 36, .inl (fun k => pbF σ k))), (a 5, .inl (G.2.1, 36, .inl (fun k => nI (scn σ k)))), (a 6, .inl (G.2.1, 60, .inl (upd (fun e => nI (agF σ e)) e (nI v))))] H := hP
  have hD : va_D (zA (wA G a σ)) [(a 0, .inr (0, [.ref (a 1), .ref (a 2), .ref (a 3), .ref (a 4), .ref (a 5), .ref (a 6), .int (nI (σ 0)), .int (nI (σ 1)), .int (nI (σ 2)), .int (nI (σ 3))])), (a 1, .inl (G.2.1, 1440, .inl (fun i => nI (sgF σ i)))), (a 2, .inl (G.2.1, 360, .inl (fun i => nI (mnF σ i)))), (a 3, .inl (G.2.1, 36, .inl (fun k => nI (rvn σ k)))), (a 4, .inl (G.2.1, 36, .inl (fun k => pbF σ k))), (a 5, .inl (G.2.1, 36, .inl (fun k => nI (scn σ k)))), (a 6, .inl (G.2.1, 60, .inl (upd (fun e => nI (agF σ e)) e (nI v))))] := hD
  exact hret _ _ _ _ _ dX0_putAgreed_9 hS (by rw [wA_ag G a σ he]; exact hP) (congrArg nI (agF_at he))
set_option maxHeartbeats 4000000 in
set_option maxRecDepth 100000 in
theorem kX0_putScale (l : Launch) (G : zG) (a : Nat → Nat) (σ : Nat → Nat) (k : Nat) (v : Nat) (hk : k < 36) (hd : va_D (fun _ => True) (wA G a σ)) : Met l yX0_putScale wsX0_putScale (zRm 1 23) (zPc G [.ref (a 0), .int (nI k), .int (nI v)] (va_P G.1 vwCl (wA G a σ))) (zQ (zA (wA G a σ)) (some (.int (nI (scn σ k)))) (va_P G.1 vwCl (wA G a (su σ (116 + 53 * k) v)))) 0 0 (zA (wA G a σ)) := by
  refine zmkWi (w := (wA G a σ)) hd (cc := cX0_putScale) (maxL := 3) (by decide) rfl (Nat.le_of_ble_eq_true rfl) ?_
  intro pr en st mi ar bl me cd ls Q hx hb hml hown hts hG hP hl hD hS hret
  have hown : st.vm.findClass RX0 = some mi.cls := hown
  have hl : lv_has ls 3 [(0, .ref (a 0)), (1, .int (nI k)), (2, .int (nI v))] := hl
  have hP : va_P G.1 vwCl (wA G a σ) st.heap := hP
  have hD : va_D (zA (wA G a σ)) (wA G a σ) := hD
  have hinX0 : ∀ w ∈ wsX00, w ∈ wsX0_putScale := by decide +kernel
  have hf24 := hts (.fieldLink RX0 24 "MapSheets$Atlas" "scales" "[I") (by decide +kernel)
  have hz97 : Cond.initialized RX4 ∈ wsX0_putScale := by decide +kernel
  have hy97 : Cond.static yX4_exchange ∈ wsX0_putScale := by decide +kernel
  refine lv_aload_n hx hb dX0_putScale_0 rfl (lv_at hl 0 rfl) ?_
  refine va_get (D := G.1) (ci := 0) (v := .ref (a 5)) (C := RX0) (T := TX0) (N := 10) hx hb hts hinX0 hown hG.1 hP 0 rfl rfl 4 (by decide) hf24 (fun _ h9 => h9) rfl dX0_putScale_1 ?_
  refine lv_iload_n hx hb dX0_putScale_4 rfl (lv_at hl 1 rfl) ?_
  refine lv_iload_n hx hb dX0_putScale_5 rfl (lv_at hl 2 rfl) ?_
  refine zwrM (G := G) (w1 := [(a 0, .inr (0, [.ref (a 1), .ref (a 2), .ref (a 3), .ref (a 4), .ref (a 5), .ref (a 6), .int (nI (σ 0)), .int (nI (σ 1)), .int (nI (σ 2)), .int (nI (σ 3))])), (a 1, .inl (G.2.1, 1440, .inl (fun i => nI (sgF σ i)))), (a 2, .inl (G.2.1, 360, .inl (fun i => nI (mnF σ i)))), (a 3, .inl (G.2.1, 36, .inl (fun k => nI (rvn σ k)))), (a 4, .inl (G.2.1, 36, .inl (fun k => pbF σ k)))]) (wc := [(a 5, .inl (G.2.1, 36, .inl (fun k => nI (scn σ k))))]) (wc' := [(a 5, .inl (G.2.1, 36, .inl (upd (fun k => nI (scn σ k)) k (nI v))))]) (w2 := [(a 6, .inl (G.2.1, 60, .inl (fun e => nI (agF σ e))))]) (va_runSN (As := [.ref (a 5), .int (nI k), .int (nI v)]) (rest := []) ⟨hx, hb, hml, hown, hts⟩ (kX4_exchange l G 36 (fun k => nI (scn σ k)) (a 5) k (nI v) (by omega) (by omega) (zD_any (zD_m (w1 := [(a 0, .inr (0, [.ref (a 1), .ref (a 2), .ref (a 3), .ref (a 4), .ref (a 5), .ref (a 6), .int (nI (σ 0)), .int (nI (σ 1)), .int (nI (σ 2)), .int (nI (σ 3))])), (a 1, .inl (G.2.1, 1440, .inl (fun i => nI (sgF σ i)))), (a 2, .inl (G.2.1, 360, .inl (fun i => nI (mnF σ i)))), (a 3, .inl (G.2.1, 36, .inl (fun k => nI (rvn σ k)))), (a 4, .inl (G.2.1, 36, .inl (fun k => pbF σ k)))]) (wc := [(a 5, .inl (G.2.1, 36, .inl (fun k => nI (scn σ k))))]) (w2 := [(a 6, .inl (G.2.1, 60, .inl (fun e => nI (agF σ e))))]) hD))) ⟨va_cnB 3 hts gX0_putScale_X4_exchange_n97 rfl rfl rfl (hG.2.2.2.2.2.1) (hts _ hz97) (by decide +kernel) ⟨Nat.le_of_ble_eq_true rfl, Nat.le_of_ble_eq_true rfl⟩, hts _ hy97, trivial⟩ (zPre hG (hP.sub [5] rfl)) rfl rfl hl.1 rfl (lv_room (Nat.le_of_ble_eq_true rfl)) dX0_putScale_6 ⟨Nat.le_of_ble_eq_true rfl, Nat.le_of_ble_eq_true rfl⟩) hP hD hS rfl (fun H locs hP hD hS => ?_)
  have hP : va_P G.1 vwCl [(a 0, .inr (0, [.ref (a 1), .ref (a 2), .ref (a 3), .ref (a 4), .ref (a 5), .ref (a 6), .int (nI (σ 0)), .int (nI (σ 1)), .int (nI (σ 2)), .int (nI (σ 3))])), (a 1, .inl (G.2.1, 1440, .inl (fun i => nI (sgF σ i)))), (a 2, .inl (G.2.1, 360, .inl (fun i => nI (mnF σ i)))), (a 3, .inl (G.2.1, 36, .inl (fun k => nI (rvn σ k)))), (a 4, .inl (G.2.1, 36, .inl (fun k => pbF σ k))), (a 5, .inl (G.2.1, 36, .inl (upd (fun k => nI (scn σ k)) k (nI v)))), (a 6, .inl (G.2.1, 60, .inl (fun e => nI (agF σ e))))] H := hP
  have hD : va_D (zA (wA G a σ)) [(a 0, .inr (0, [.ref (a 1), .ref (a 2), .ref (a 3), .ref (a 4), .ref (a 5), .ref (a 6), .int (nI (σ 0)), .int (nI (σ 1)), .int (nI (σ 2)), .int (nI (σ 3))])), (a 1, .inl (G.2.1, 1440, .inl (fun i => nI (sgF σ i)))), (a 2, .inl (G.2.1, 360, .inl (fun i => nI (mnF σ i)))), (a 3, .inl (G.2.1, 36, .inl (fun k => nI (rvn σ k)))), (a 4, .inl (G.2.1, 36, .inl (fun k => pbF σ k))), (a 5, .inl (G.2.1, 36, .inl (upd (fun k => nI (scn σ k)) k (nI v)))), (a 6, .inl (G.2.1, 60, .inl (fun e => nI (agF σ e))))] := hD
  exact hret _ _ _ _ _ dX0_putScale_9 hS (by rw [wA_sc G a σ k]; exact hP) (congrArg nI (rfl))
set_option maxHeartbeats 4000000 in
set_option maxRecDepth 100000 in
theorem kX0_addRevision (l : Launch) (G : zG) (a : Nat → Nat) (σ : Nat → Nat) {N : Nat} (k : Nat) (hO : Ok N σ) (hk : k < 36) (hd : va_D (fun _ => True) (wA G a σ)) : Met l yX0_addRevision wsX0_addRevision (zRm 2 43) (zPc G [.ref (a 0), .int (nI k)] (va_P G.1 vwCl (wA G a σ))) (zQ (zA (wA G a σ)) none (va_P G.1 vwCl (wA G a (su σ (114 + 53 * k) (rvn σ k + 1))))) 0 0 (zA (wA G a σ)) := by
  refine zmkWv (w := (wA G a σ)) hd (cc := cX0_addRevision) (maxL := 2) (by decide) rfl (Nat.le_of_ble_eq_true rfl) ?_
  intro pr en st mi ar bl me cd ls Q hx hb hml hown hts hG hP hl hD hS hret
  have hown : st.vm.findClass RX0 = some mi.cls := hown
  have hl : lv_has ls 2 [(0, .ref (a 0)), (1, .int (nI k))] := hl
  have hP : va_P G.1 vwCl (wA G a σ) st.heap := hP
  have hD : va_D (zA (wA G a σ)) (wA G a σ) := hD
  have hinX0 : ∀ w ∈ wsX00, w ∈ wsX0_addRevision := by decide +kernel
  have hf18 := hts (.fieldLink RX0 18 "MapSheets$Atlas" "revisions" "[I") (by decide +kernel)
  have hz97 : Cond.initialized RX4 ∈ wsX0_addRevision := by decide +kernel
  have hy97 : Cond.static yX4_exchange ∈ wsX0_addRevision := by decide +kernel
  have hc := hO.c
  have hs := hO.lS
  have hr := hO.lR
  have hne := hO.lE
  refine lv_aload_n hx hb dX0_addRevision_0 rfl (lv_at hl 0 rfl) ?_
  refine va_get (D := G.1) (ci := 0) (v := .ref (a 3)) (C := RX0) (T := TX0) (N := 10) hx hb hts hinX0 hown hG.1 hP 0 rfl rfl 2 (by decide) hf18 (fun _ h9 => h9) rfl dX0_addRevision_1 ?_
  refine lv_iload_n hx hb dX0_addRevision_4 rfl (lv_at hl 1 rfl) ?_
  refine lv_aload_n hx hb dX0_addRevision_5 rfl (lv_at hl 0 rfl) ?_
  refine lv_iload_n hx hb dX0_addRevision_6 rfl (lv_at hl 1 rfl) ?_
  refine zrdV (As := [.int (nI k)]) ⟨hx, hb, hml, hown, hts⟩ (kX0_revisionOf l G a σ k (hO) (by omega)) (cwV 1 hts gX0_addRevision_X0_revisionOf rfl rfl rfl (by decide +kernel) ⟨Nat.le_of_ble_eq_true rfl, Nat.le_of_ble_eq_true rfl⟩) hG (va_recv (q0 := 0) (ci := 0) hG.1 hP rfl rfl) (hP) rfl rfl hl.1 dX0_addRevision_7 (Nat.le_of_ble_eq_true rfl) ⟨Nat.le_of_ble_eq_true rfl, Nat.le_of_ble_eq_true rfl⟩ ?_
  have hf7_0 := hO.rv (show k < 36 by omega)
  have hf7_1 := hO.N
  refine lv_iconst (v := nI 1) hx hb dX0_addRevision_10 (by decide) ?_
  refine lv_iadd hx hb dX0_addRevision_11 ?_
  refine lv_topi (nm_r (e' := nI ((rvn σ k) + 1)) (nI_add _ _) ?_)
  refine zwrM (G := G) (w1 := [(a 0, .inr (0, [.ref (a 1), .ref (a 2), .ref (a 3), .ref (a 4), .ref (a 5), .ref (a 6), .int (nI (σ 0)), .int (nI (σ 1)), .int (nI (σ 2)), .int (nI (σ 3))])), (a 1, .inl (G.2.1, 1440, .inl (fun i => nI (sgF σ i)))), (a 2, .inl (G.2.1, 360, .inl (fun i => nI (mnF σ i))))]) (wc := [(a 3, .inl (G.2.1, 36, .inl (fun k => nI (rvn σ k))))]) (wc' := [(a 3, .inl (G.2.1, 36, .inl (upd (fun k => nI (rvn σ k)) k (nI ((rvn σ k) + 1)))))]) (w2 := [(a 4, .inl (G.2.1, 36, .inl (fun k => pbF σ k))), (a 5, .inl (G.2.1, 36, .inl (fun k => nI (scn σ k)))), (a 6, .inl (G.2.1, 60, .inl (fun e => nI (agF σ e))))]) (va_runSN (As := [.ref (a 3), .int (nI k), .int (nI ((rvn σ k) + 1))]) (rest := []) ⟨hx, hb, hml, hown, hts⟩ (kX4_exchange l G 36 (fun k => nI (rvn σ k)) (a 3) k (nI ((rvn σ k) + 1)) (by omega) (by omega) (zD_any (zD_m (w1 := [(a 0, .inr (0, [.ref (a 1), .ref (a 2), .ref (a 3), .ref (a 4), .ref (a 5), .ref (a 6), .int (nI (σ 0)), .int (nI (σ 1)), .int (nI (σ 2)), .int (nI (σ 3))])), (a 1, .inl (G.2.1, 1440, .inl (fun i => nI (sgF σ i)))), (a 2, .inl (G.2.1, 360, .inl (fun i => nI (mnF σ i))))]) (wc := [(a 3, .inl (G.2.1, 36, .inl (fun k => nI (rvn σ k))))]) (w2 := [(a 4, .inl (G.2.1, 36, .inl (fun k => pbF σ k))), (a 5, .inl (G.2.1, 36, .inl (fun k => nI (scn σ k)))), (a 6, .inl (G.2.1, 60, .inl (fun e => nI (agF σ e))))]) hD))) ⟨va_cnB 3 hts gX0_addRevision_X4_exchange_n97 rfl rfl rfl (hG.2.2.2.2.2.1) (hts _ hz97) (by decide +kernel) ⟨Nat.le_of_ble_eq_true rfl, Nat.le_of_ble_eq_true rfl⟩, hts _ hy97, trivial⟩ (zPre hG (hP.sub [3] rfl)) rfl rfl hl.1 rfl (lv_room (Nat.le_of_ble_eq_true rfl)) dX0_addRevision_12 ⟨Nat.le_of_ble_eq_true rfl, Nat.le_of_ble_eq_true rfl⟩) hP hD hS rfl (fun H locs hP hD hS => ?_)
  have hP : va_P G.1 vwCl [(a 0, .inr (0, [.ref (a 1), .ref (a 2), .ref (a 3), .ref (a 4), .ref (a 5), .ref (a 6), .int (nI (σ 0)), .int (nI (σ 1)), .int (nI (σ 2)), .int (nI (σ 3))])), (a 1, .inl (G.2.1, 1440, .inl (fun i => nI (sgF σ i)))), (a 2, .inl (G.2.1, 360, .inl (fun i => nI (mnF σ i)))), (a 3, .inl (G.2.1, 36, .inl (upd (fun k => nI (rvn σ k)) k (nI ((rvn σ k) + 1))))), (a 4, .inl (G.2.1, 36, .inl (fun k => pbF σ k))), (a 5, .inl (G.2.1, 36, .inl (fun k => nI (scn σ k)))), (a 6, .inl (G.2.1, 60, .inl (fun e => nI (agF σ e))))] H := hP
  have hD : va_D (zA (wA G a σ)) [(a 0, .inr (0, [.ref (a 1), .ref (a 2), .ref (a 3), .ref (a 4), .ref (a 5), .ref (a 6), .int (nI (σ 0)), .int (nI (σ 1)), .int (nI (σ 2)), .int (nI (σ 3))])), (a 1, .inl (G.2.1, 1440, .inl (fun i => nI (sgF σ i)))), (a 2, .inl (G.2.1, 360, .inl (fun i => nI (mnF σ i)))), (a 3, .inl (G.2.1, 36, .inl (upd (fun k => nI (rvn σ k)) k (nI ((rvn σ k) + 1))))), (a 4, .inl (G.2.1, 36, .inl (fun k => pbF σ k))), (a 5, .inl (G.2.1, 36, .inl (fun k => nI (scn σ k)))), (a 6, .inl (G.2.1, 60, .inl (fun e => nI (agF σ e))))] := hD
  refine lv_pop hx hb dX0_addRevision_15 rfl ?_
  exact hret _ _ _ _ dX0_addRevision_16 hS (by rw [wA_rv G a σ k]; exact hP)
set_option maxHeartbeats 4000000 in
set_option maxRecDepth 100000 in
theorem kX0_publishRevision (l : Launch) (G : zG) (a : Nat → Nat) (σ : Nat → Nat) {N : Nat} (k : Nat) (hO : Ok N σ) (hk : k < 36) (hd : va_D (fun _ => True) (wA G a σ)) : Met l yX0_publishRevision wsX0_publishRevision (zRm 2 43) (zPc G [.ref (a 0), .int (nI k)] (va_P G.1 vwCl (wA G a σ))) (zQ (zA (wA G a σ)) none (va_P G.1 vwCl (wA G a (su σ (115 + 53 * k) (rvn σ k + 1))))) 0 0 (zA (wA G a σ)) := by
  refine zmkWv (w := (wA G a σ)) hd (cc := cX0_publishRevision) (maxL := 2) (by decide) rfl (Nat.le_of_ble_eq_true rfl) ?_
  intro pr en st mi ar bl me cd ls Q hx hb hml hown hts hG hP hl hD hS hret
  have hown : st.vm.findClass RX0 = some mi.cls := hown
  have hl : lv_has ls 2 [(0, .ref (a 0)), (1, .int (nI k))] := hl
  have hP : va_P G.1 vwCl (wA G a σ) st.heap := hP
  have hD : va_D (zA (wA G a σ)) (wA G a σ) := hD
  have hinX0 : ∀ w ∈ wsX00, w ∈ wsX0_publishRevision := by decide +kernel
  have hf21 := hts (.fieldLink RX0 21 "MapSheets$Atlas" "published" "[I") (by decide +kernel)
  have hz97 : Cond.initialized RX4 ∈ wsX0_publishRevision := by decide +kernel
  have hy97 : Cond.static yX4_exchange ∈ wsX0_publishRevision := by decide +kernel
  have hc := hO.c
  have hs := hO.lS
  have hr := hO.lR
  have hne := hO.lE
  refine lv_aload_n hx hb dX0_publishRevision_0 rfl (lv_at hl 0 rfl) ?_
  refine va_get (D := G.1) (ci := 0) (v := .ref (a 4)) (C := RX0) (T := TX0) (N := 10) hx hb hts hinX0 hown hG.1 hP 0 rfl rfl 3 (by decide) hf21 (fun _ h9 => h9) rfl dX0_publishRevision_1 ?_
  refine lv_iload_n hx hb dX0_publishRevision_4 rfl (lv_at hl 1 rfl) ?_
  refine lv_aload_n hx hb dX0_publishRevision_5 rfl (lv_at hl 0 rfl) ?_
  refine lv_iload_n hx hb dX0_publishRevision_6 rfl (lv_at hl 1 rfl) ?_
  refine zrdV (As := [.int (nI k)]) ⟨hx, hb, hml, hown, hts⟩ (kX0_revisionOf l G a σ k (hO) (by omega)) (cwV 1 hts gX0_publishRevision_X0_revisionOf rfl rfl rfl (by decide +kernel) ⟨Nat.le_of_ble_eq_true rfl, Nat.le_of_ble_eq_true rfl⟩) hG (va_recv (q0 := 0) (ci := 0) hG.1 hP rfl rfl) (hP) rfl rfl hl.1 dX0_publishRevision_7 (Nat.le_of_ble_eq_true rfl) ⟨Nat.le_of_ble_eq_true rfl, Nat.le_of_ble_eq_true rfl⟩ ?_
  have hf7_0 := hO.rv (show k < 36 by omega)
  have hf7_1 := hO.N
  refine zwrM (G := G) (w1 := [(a 0, .inr (0, [.ref (a 1), .ref (a 2), .ref (a 3), .ref (a 4), .ref (a 5), .ref (a 6), .int (nI (σ 0)), .int (nI (σ 1)), .int (nI (σ 2)), .int (nI (σ 3))])), (a 1, .inl (G.2.1, 1440, .inl (fun i => nI (sgF σ i)))), (a 2, .inl (G.2.1, 360, .inl (fun i => nI (mnF σ i)))), (a 3, .inl (G.2.1, 36, .inl (fun k => nI (rvn σ k))))]) (wc := [(a 4, .inl (G.2.1, 36, .inl (fun k => pbF σ k)))]) (wc' := [(a 4, .inl (G.2.1, 36, .inl (upd (fun k => pbF σ k) k (nI (rvn σ k)))))]) (w2 := [(a 5, .inl (G.2.1, 36, .inl (fun k => nI (scn σ k)))), (a 6, .inl (G.2.1, 60, .inl (fun e => nI (agF σ e))))]) (va_runSN (As := [.ref (a 4), .int (nI k), .int (nI (rvn σ k))]) (rest := []) ⟨hx, hb, hml, hown, hts⟩ (kX4_exchange l G 36 (fun k => pbF σ k) (a 4) k (nI (rvn σ k)) (by omega) (by omega) (zD_any (zD_m (w1 := [(a 0, .inr (0, [.ref (a 1), .ref (a 2), .ref (a 3), .ref (a 4), .ref (a 5), .ref (a 6), .int (nI (σ 0)), .int (nI (σ 1)), .int (nI (σ 2)), .int (nI (σ 3))])), (a 1, .inl (G.2.1, 1440, .inl (fun i => nI (sgF σ i)))), (a 2, .inl (G.2.1, 360, .inl (fun i => nI (mnF σ i)))), (a 3, .inl (G.2.1, 36, .inl (fun k => nI (rvn σ k))))]) (wc := [(a 4, .inl (G.2.1, 36, .inl (fun k => pbF σ k)))]) (w2 := [(a 5, .inl (G.2.1, 36, .inl (fun k => nI (scn σ k)))), (a 6, .inl (G.2.1, 60, .inl (fun e => nI (agF σ e))))]) hD))) ⟨va_cnB 3 hts gX0_publishRevision_X4_exchange_n97 rfl rfl rfl (hG.2.2.2.2.2.1) (hts _ hz97) (by decide +kernel) ⟨Nat.le_of_ble_eq_true rfl, Nat.le_of_ble_eq_true rfl⟩, hts _ hy97, trivial⟩ (zPre hG (hP.sub [4] rfl)) rfl rfl hl.1 rfl (lv_room (Nat.le_of_ble_eq_true rfl)) dX0_publishRevision_10 ⟨Nat.le_of_ble_eq_true rfl, Nat.le_of_ble_eq_true rfl⟩) hP hD hS rfl (fun H locs hP hD hS => ?_)
  have hP : va_P G.1 vwCl [(a 0, .inr (0, [.ref (a 1), .ref (a 2), .ref (a 3), .ref (a 4), .ref (a 5), .ref (a 6), .int (nI (σ 0)), .int (nI (σ 1)), .int (nI (σ 2)), .int (nI (σ 3))])), (a 1, .inl (G.2.1, 1440, .inl (fun i => nI (sgF σ i)))), (a 2, .inl (G.2.1, 360, .inl (fun i => nI (mnF σ i)))), (a 3, .inl (G.2.1, 36, .inl (fun k => nI (rvn σ k)))), (a 4, .inl (G.2.1, 36, .inl (upd (fun k => pbF σ k) k (nI (rvn σ k))))), (a 5, .inl (G.2.1, 36, .inl (fun k => nI (scn σ k)))), (a 6, .inl (G.2.1, 60, .inl (fun e => nI (agF σ e))))] H := hP
  have hD : va_D (zA (wA G a σ)) [(a 0, .inr (0, [.ref (a 1), .ref (a 2), .ref (a 3), .ref (a 4), .ref (a 5), .ref (a 6), .int (nI (σ 0)), .int (nI (σ 1)), .int (nI (σ 2)), .int (nI (σ 3))])), (a 1, .inl (G.2.1, 1440, .inl (fun i => nI (sgF σ i)))), (a 2, .inl (G.2.1, 360, .inl (fun i => nI (mnF σ i)))), (a 3, .inl (G.2.1, 36, .inl (fun k => nI (rvn σ k)))), (a 4, .inl (G.2.1, 36, .inl (upd (fun k => pbF σ k) k (nI (rvn σ k))))), (a 5, .inl (G.2.1, 36, .inl (fun k => nI (scn σ k)))), (a 6, .inl (G.2.1, 60, .inl (fun e => nI (agF σ e))))] := hD
  refine lv_pop hx hb dX0_publishRevision_13 rfl ?_
  exact hret _ _ _ _ dX0_publishRevision_14 hS (by rw [wA_pb G a σ k]; exact hP)
