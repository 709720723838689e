set_option maxHeartbeats 4000000 in
set_option maxRecDepth 100000 in
theorem kX2_restoreLatest (l : Launch) (G : zG) (h : Nat → Nat) (ha : Nat → Nat → Nat) (o n : Nat) (T : Nat → Nat → Nat) (a σ : Nat → Nat) (ho : o < 5) (hn : n ≤ 4) (hn1 : 1 ≤ n) (hd : va_D (fun _ => True) (wHo G h ha o n ++ (wTs G ha T 5 ++ wA G a σ))) : Met l yX2_restoreLatest wsX2_restoreLatest (zRm 4 104) (zPc G [.ref (h 0), .ref (a 0)] (va_P G.1 vwCl (wHo G h ha o n ++ (wTs G ha T 5 ++ wA G a σ)))) (zQ (zA (wHo G h ha o n ++ (wTs G ha T 5 ++ wA G a σ))) none (va_P G.1 vwCl (wHo G h ha o (n - 1) ++ (wTs G ha T 5 ++ wA G a (T ((o + (n - 1)) % 5)))))) 0 0 (zA (wHo G h ha o n ++ (wTs G ha T 5 ++ wA G a σ))) := by
  refine zmkWv (w := (wHo G h ha o n ++ (wTs G ha T 5 ++ wA G a σ))) hd (cc := cX2_restoreLatest) (maxL := 2) (by decide) rfl (Nat.le_of_ble_eq_true rfl) ?_
  intro pr en st mi ar bl me cd ls Q hx hb hml hown hts hG hP hl hD hS hret
  have hown : st.vm.findClass RX2 = some mi.cls := hown
  have hl : lv_has ls 2 [(0, .ref (h 0)), (1, .ref (a 0))] := hl
  have hP : va_P G.1 vwCl (wHo G h ha o n ++ (wTs G ha T 5 ++ wA G a σ)) st.heap := hP
  have hD : va_D (zA (wHo G h ha o n ++ (wTs G ha T 5 ++ wA G a σ))) (wHo G h ha o n ++ (wTs G ha T 5 ++ wA G a σ)) := hD
  have hinX2 : ∀ w ∈ wsX20, w ∈ wsX2_restoreLatest := by decide +kernel
  have hf21 := hts (.fieldLink RX2 21 "MapSheets$History" "size" "I") (by decide +kernel)
  refine lv_aload_n hx hb dX2_restoreLatest_0 rfl (lv_at hl 0 rfl) ?_
  refine va_get (D := G.1) (ci := 2) (v := .int (nI n)) (C := RX2) (T := TX2) (N := 3) hx hb hts hinX2 hown hG.1 hP 0 rfl rfl 2 (by decide) hf21 (fun _ h9 => h9) rfl dX2_restoreLatest_1 ?_
  refine lv_if_le (tgt := 22) hx hb dX2_restoreLatest_4 (by decide) (fun h4 => ?_) (fun h4 => ?_)
  · skip
    have h4 : n = 0 := (z_le0 (by omega)).mp h4
    exfalso; omega
  · skip
    have h4 : ¬ (n = 0) := fun q => h4 ((z_le0 (by omega)).mpr q)
    have h4 : 0 < n := Nat.pos_of_ne_zero h4
    refine lv_aload_n hx hb dX2_restoreLatest_7 rfl (lv_at hl 0 rfl) ?_
    refine lv_dup hx hb dX2_restoreLatest_8 rfl ?_
    refine va_get (D := G.1) (ci := 2) (v := .int (nI n)) (C := RX2) (T := TX2) (N := 3) hx hb hts hinX2 hown hG.1 hP 0 rfl rfl 2 (by decide) hf21 (fun _ h9 => h9) rfl dX2_restoreLatest_9 ?_
    refine lv_iconst (v := nI 1) hx hb dX2_restoreLatest_12 (by decide) ?_
    refine lv_isub hx hb dX2_restoreLatest_13 ?_
    refine lv_topi (nm_r (e' := nI (n - 1)) (pk_sub (by omega)) ?_)
    refine va_put (D := G.1) (ci := 2) (v := .int (nI (n - 1))) (ty := .int) (C := RX2) (T := TX2) (N := 3) hx hb hts hinX2 tyX2 tyX2_ok nmX2 hown hG.1 hP hD hS 0 rfl rfl 2 (by decide) hf21 (fun _ h9 => h9) rfl (by decide +kernel) rfl rfl (Nat.le_of_ble_eq_true rfl) dX2_restoreLatest_14 (fun H locs hP hD hS => ?_)
    have hP : va_P G.1 vwCl (wHo G h ha o (n - 1) ++ (wTs G ha T 5 ++ wA G a σ)) H := hP
    have hD : va_D (zA (wHo G h ha o n ++ (wTs G ha T 5 ++ wA G a σ))) (wHo G h ha o (n - 1) ++ (wTs G ha T 5 ++ wA G a σ)) := hD
    refine lv_aload_n hx hb dX2_restoreLatest_17 rfl (lv_at hl 0 rfl) ?_
    refine lv_aload_n hx hb dX2_restoreLatest_18 rfl (lv_at hl 1 rfl) ?_
    refine zwrWv (G := G) (wc := (wHo G h ha o (n - 1) ++ (wTs G ha T 5 ++ wA G a σ))) (wc' := (wHo G h ha o (n - 1) ++ (wTs G ha T 5 ++ wA G a (T ((o + (n - 1)) % 5))))) (va_runV (As := [.ref (a 0)]) (rest := []) ⟨hx, hb, hml, hown, hts⟩ (kX2_returnToRecord l G h ha o (n - 1) T a σ ho (by omega) (zD_any hD)) (cwV 1 hts gX2_restoreLatest_X2_returnToRecord rfl rfl rfl (by decide +kernel) ⟨Nat.le_of_ble_eq_true rfl, Nat.le_of_ble_eq_true rfl⟩) (zPreV hG (va_recv (q0 := 0) (ci := 2) hG.1 hP rfl rfl) (hP)) rfl rfl hl.1 rfl (lv_room (Nat.le_of_ble_eq_true rfl)) dX2_restoreLatest_19 ⟨Nat.le_of_ble_eq_true rfl, Nat.le_of_ble_eq_true rfl⟩) hP hD hS rfl (fun H locs hP hD hS => ?_)
    exact hret _ _ _ _ dX2_restoreLatest_22 hS (hP)
