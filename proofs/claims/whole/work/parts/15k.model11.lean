def zr : Nat → Nat := fun i => if 64 ≤ i ∧ (i - 64) % 53 = 51 then 1 else 0
def zr2 : Nat → Nat := fun i => if i = 2 then 1 else if i = 3 then 20 else zr i
theorem sF_zr (j : Nat) : (0 : Int32) = sF zr j := by
  unfold sF zr
  by_cases h : 64 ≤ j ∧ (j - 64) % 53 = 51
  · rw [if_pos h, if_pos h]; rfl
  · rw [if_neg h, if_neg h]; rfl
theorem sF_zr2 (j : Nat) : upd (upd (fun _ => (0 : Int32)) 2 (nI 1)) 3 (nI 20) j = sF zr2 j := by
  by_cases h3 : j = 3
  · rw [h3]; rfl
  · by_cases h2 : j = 2
    · rw [h2]; rfl
    · have e : upd (upd (fun _ => (0 : Int32)) 2 (nI 1)) 3 (nI 20) j = 0 := by unfold upd; rw [if_neg h3, if_neg h2]
      rw [e, sF_zr j]
      unfold sF
      rw [show zr2 j = zr j by unfold zr2; rw [if_neg h2, if_neg h3]]
def nwM (G : zG) (q sz : Nat) (H : Heap) : Prop := ∃ m : Nat → Nat, m 0 = q ∧ va_P G.1 vwCl (wM G m (bgn 3 2 1 20) (fun _ => zr) zr 0 (fun _ => 0) 0 (fun _ => 0)) H ∧ va_D (zAN q sz) (wM G m (bgn 3 2 1 20) (fun _ => zr) zr 0 (fun _ => 0) 0 (fun _ => 0))
set_option maxHeartbeats 4000000 in
set_option maxRecDepth 100000 in
theorem kX5_init (l : Launch) (G : zG) (q sz : Nat) : Met l yX5_init wsX5_init { frames := 1, cells := 5, slots := 11968, locals := 24 } (zPcO G [.ref q] (fun H => H.size = sz ∧ va_P G.1 vwCl [(q, .inr (5, [.null, .null, .null, .int (nI 0), .null, .int (nI 0), .null]))] H)) (zQ (zAN q sz) none (nwM G q sz)) 5 11968 (zAN q sz) := by
  refine zmkC (q := q) (sz := sz) (cc := cX5_init) (maxL := 1) (P := va_P G.1 vwCl [(q, .inr (5, [.null, .null, .null, .int (nI 0), .null, .int (nI 0), .null]))]) (by decide) rfl (Nat.le_of_ble_eq_true rfl) ?_
  intro pr en st mi ar bl me cd ls Q hx hb hml hown hts hG hGO hsz hP hl hS hA hin hret
  have hown : st.vm.findClass RX5 = some mi.cls := hown
  have hl : lv_has ls 1 [(0, .ref q)] := hl
  have hD : va_D (zAN q sz) [(q, .inr (5, [.null, .null, .null, .int (nI 0), .null, .int (nI 0), .null]))] := ⟨fun i j x y hi hj _ => by have h1 := (List.getElem?_eq_some_iff.mp hi).1; have h2 := (List.getElem?_eq_some_iff.mp hj).1; simp at h1 h2; omega, fun k x hk => by have h1 := (List.getElem?_eq_some_iff.mp hk).1; simp at h1; subst h1; cases hk; exact Or.inl rfl⟩
  have hinX5 : ∀ w ∈ wsX50, w ∈ wsX5_init := by decide +kernel
  have hf7 := hts (.fieldLink RX5 7 "MapSheetsModel" "s" "[I") (by decide +kernel)
  have hf13 := hts (.fieldLink RX5 13 "MapSheetsModel" "was" "[I") (by decide +kernel)
  have hf16 := hts (.fieldLink RX5 16 "MapSheetsModel" "aside" "[I") (by decide +kernel)
  have hf19 := hts (.fieldLink RX5 19 "MapSheetsModel" "text" "[I") (by decide +kernel)
  have hf22 := hts (.fieldLink RX5 22 "MapSheetsModel" "block" "[I") (by decide +kernel)
  refine lv_aload_n hx hb dX5_init_0 rfl (lv_at hl 0 rfl) ?_
  refine W.objInit hx hb hown (hts (.methodLink RX5 1 objectInit) (by decide +kernel)) (hts (.instanceMethod objectInit) (by decide +kernel)) (hts (.code objectInit ⟨#[0xb1]⟩ 1 none) (by decide +kernel)) rfl (by rw [hml]; exact hl.1) rfl dX5_init_1 (Nat.le_of_ble_eq_true rfl) (Nat.le_of_ble_eq_true rfl) ?_
  refine W.eq (g2 := F0 mi 4 ls []) rfl ?_
  refine lv_aload_n hx hb dX5_init_4 rfl (lv_at hl 0 rfl) ?_
  refine lv_sipush (v := nI 1972) hx hb dX5_init_5 (by decide) ?_
  refine va_newa (atype := .int) (a0 := (1972, .inl (fun _ => 0))) hx hb (hts (.arrayClass .int) (by decide +kernel)) rfl hG.1 hP hD hS hA (fun cA => rfl) (nI_pos (n := 1972) (by omega)) (nI_clamp (n := 1972) (by omega)) (Nat.le_of_ble_eq_true rfl) (Nat.le_of_ble_eq_true rfl) (Nat.le_of_ble_eq_true rfl) dX5_init_8 (fun q8 cA H hK1 hP hD hS => ?_)
  obtain rfl := zcA hK1 0 rfl
  clear hK1
  have hP : va_P G.1 vwCl [(q, .inr (5, [.null, .null, .null, .int (nI 0), .null, .int (nI 0), .null])), (q8, .inl (G.2.1, 1972, .inl (fun _ => 0)))] H := hP
  have hD : va_D (zAN q sz) [(q, .inr (5, [.null, .null, .null, .int (nI 0), .null, .int (nI 0), .null])), (q8, .inl (G.2.1, 1972, .inl (fun _ => 0)))] := hD
  refine va_putF (D := G.1) (ci := 5) (v := .ref q8) (ty := .array (.int)) (C := RX5) (T := TX5) (N := 7) hx hb hts hinX5 tyX5 tyX5_ok nmX5 hown hG.1 hP hD hS 0 rfl rfl 0 (by decide) hf7 (fun _ h9 => h9) rfl hin rfl (by decide +kernel) rfl rfl (Nat.le_of_ble_eq_true rfl) dX5_init_10 (fun H locs hP hD hS => ?_)
  have hP : va_P G.1 vwCl [(q, .inr (5, [.ref q8, .null, .null, .int (nI 0), .null, .int (nI 0), .null])), (q8, .inl (G.2.1, 1972, .inl (fun _ => 0)))] H := hP
  have hD : va_D (zAN q sz) [(q, .inr (5, [.ref q8, .null, .null, .int (nI 0), .null, .int (nI 0), .null])), (q8, .inl (G.2.1, 1972, .inl (fun _ => 0)))] := hD
  refine lv_aload_n hx hb dX5_init_13 rfl (lv_at hl 0 rfl) ?_
  refine lv_sipush (v := nI 7888) hx hb dX5_init_14 (by decide) ?_
  refine va_newa (atype := .int) (a0 := (7888, .inl (fun _ => 0))) hx hb (hts (.arrayClass .int) (by decide +kernel)) rfl hG.1 hP hD hS hA (fun cA => rfl) (nI_pos (n := 7888) (by omega)) (nI_clamp (n := 7888) (by omega)) (Nat.le_of_ble_eq_true rfl) (Nat.le_of_ble_eq_true rfl) (Nat.le_of_ble_eq_true rfl) dX5_init_17 (fun q17 cA H hK1 hP hD hS => ?_)
  obtain rfl := zcA hK1 0 rfl
  clear hK1
  have hP : va_P G.1 vwCl [(q, .inr (5, [.ref q8, .null, .null, .int (nI 0), .null, .int (nI 0), .null])), (q8, .inl (G.2.1, 1972, .inl (fun _ => 0))), (q17, .inl (G.2.1, 7888, .inl (fun _ => 0)))] H := hP
  have hD : va_D (zAN q sz) [(q, .inr (5, [.ref q8, .null, .null, .int (nI 0), .null, .int (nI 0), .null])), (q8, .inl (G.2.1, 1972, .inl (fun _ => 0))), (q17, .inl (G.2.1, 7888, .inl (fun _ => 0)))] := hD
  refine va_putF (D := G.1) (ci := 5) (v := .ref q17) (ty := .array (.int)) (C := RX5) (T := TX5) (N := 7) hx hb hts hinX5 tyX5 tyX5_ok nmX5 hown hG.1 hP hD hS 0 rfl rfl 1 (by decide) hf13 (fun _ h9 => h9) rfl hin rfl (by decide +kernel) rfl rfl (Nat.le_of_ble_eq_true rfl) dX5_init_19 (fun H locs hP hD hS => ?_)
  have hP : va_P G.1 vwCl [(q, .inr (5, [.ref q8, .ref q17, .null, .int (nI 0), .null, .int (nI 0), .null])), (q8, .inl (G.2.1, 1972, .inl (fun _ => 0))), (q17, .inl (G.2.1, 7888, .inl (fun _ => 0)))] H := hP
  have hD : va_D (zAN q sz) [(q, .inr (5, [.ref q8, .ref q17, .null, .int (nI 0), .null, .int (nI 0), .null])), (q8, .inl (G.2.1, 1972, .inl (fun _ => 0))), (q17, .inl (G.2.1, 7888, .inl (fun _ => 0)))] := hD
  refine lv_aload_n hx hb dX5_init_22 rfl (lv_at hl 0 rfl) ?_
  refine lv_sipush (v := nI 1972) hx hb dX5_init_23 (by decide) ?_
  refine va_newa (atype := .int) (a0 := (1972, .inl (fun _ => 0))) hx hb (hts (.arrayClass .int) (by decide +kernel)) rfl hG.1 hP hD hS hA (fun cA => rfl) (nI_pos (n := 1972) (by omega)) (nI_clamp (n := 1972) (by omega)) (Nat.le_of_ble_eq_true rfl) (Nat.le_of_ble_eq_true rfl) (Nat.le_of_ble_eq_true rfl) dX5_init_26 (fun q26 cA H hK1 hP hD hS => ?_)
  obtain rfl := zcA hK1 0 rfl
  clear hK1
  have hP : va_P G.1 vwCl [(q, .inr (5, [.ref q8, .ref q17, .null, .int (nI 0), .null, .int (nI 0), .null])), (q8, .inl (G.2.1, 1972, .inl (fun _ => 0))), (q17, .inl (G.2.1, 7888, .inl (fun _ => 0))), (q26, .inl (G.2.1, 1972, .inl (fun _ => 0)))] H := hP
  have hD : va_D (zAN q sz) [(q, .inr (5, [.ref q8, .ref q17, .null, .int (nI 0), .null, .int (nI 0), .null])), (q8, .inl (G.2.1, 1972, .inl (fun _ => 0))), (q17, .inl (G.2.1, 7888, .inl (fun _ => 0))), (q26, .inl (G.2.1, 1972, .inl (fun _ => 0)))] := hD
  refine va_putF (D := G.1) (ci := 5) (v := .ref q26) (ty := .array (.int)) (C := RX5) (T := TX5) (N := 7) hx hb hts hinX5 tyX5 tyX5_ok nmX5 hown hG.1 hP hD hS 0 rfl rfl 2 (by decide) hf16 (fun _ h9 => h9) rfl hin rfl (by decide +kernel) rfl rfl (Nat.le_of_ble_eq_true rfl) dX5_init_28 (fun H locs hP hD hS => ?_)
  have hP : va_P G.1 vwCl [(q, .inr (5, [.ref q8, .ref q17, .ref q26, .int (nI 0), .null, .int (nI 0), .null])), (q8, .inl (G.2.1, 1972, .inl (fun _ => 0))), (q17, .inl (G.2.1, 7888, .inl (fun _ => 0))), (q26, .inl (G.2.1, 1972, .inl (fun _ => 0)))] H := hP
  have hD : va_D (zAN q sz) [(q, .inr (5, [.ref q8, .ref q17, .ref q26, .int (nI 0), .null, .int (nI 0), .null])), (q8, .inl (G.2.1, 1972, .inl (fun _ => 0))), (q17, .inl (G.2.1, 7888, .inl (fun _ => 0))), (q26, .inl (G.2.1, 1972, .inl (fun _ => 0)))] := hD
  refine lv_aload_n hx hb dX5_init_31 rfl (lv_at hl 0 rfl) ?_
  refine lv_bipush (v := nI 100) hx hb dX5_init_32 (by decide) ?_
  refine va_newa (atype := .int) (a0 := (100, .inl (fun _ => 0))) hx hb (hts (.arrayClass .int) (by decide +kernel)) rfl hG.1 hP hD hS hA (fun cA => rfl) (nI_pos (n := 100) (by omega)) (nI_clamp (n := 100) (by omega)) (Nat.le_of_ble_eq_true rfl) (Nat.le_of_ble_eq_true rfl) (Nat.le_of_ble_eq_true rfl) dX5_init_34 (fun q34 cA H hK1 hP hD hS => ?_)
  obtain rfl := zcA hK1 0 rfl
  clear hK1
  have hP : va_P G.1 vwCl [(q, .inr (5, [.ref q8, .ref q17, .ref q26, .int (nI 0), .null, .int (nI 0), .null])), (q8, .inl (G.2.1, 1972, .inl (fun _ => 0))), (q17, .inl (G.2.1, 7888, .inl (fun _ => 0))), (q26, .inl (G.2.1, 1972, .inl (fun _ => 0))), (q34, .inl (G.2.1, 100, .inl (fun _ => 0)))] H := hP
  have hD : va_D (zAN q sz) [(q, .inr (5, [.ref q8, .ref q17, .ref q26, .int (nI 0), .null, .int (nI 0), .null])), (q8, .inl (G.2.1, 1972, .inl (fun _ => 0))), (q17, .inl (G.2.1, 7888, .inl (fun _ => 0))), (q26, .inl (G.2.1, 1972, .inl (fun _ => 0))), (q34, .inl (G.2.1, 100, .inl (fun _ => 0)))] := hD
  refine va_putF (D := G.1) (ci := 5) (v := .ref q34) (ty := .array (.int)) (C := RX5) (T := TX5) (N := 7) hx hb hts hinX5 tyX5 tyX5_ok nmX5 hown hG.1 hP hD hS 0 rfl rfl 4 (by decide) hf19 (fun _ h9 => h9) rfl hin rfl (by decide +kernel) rfl rfl (Nat.le_of_ble_eq_true rfl) dX5_init_36 (fun H locs hP hD hS => ?_)
  have hP : va_P G.1 vwCl [(q, .inr (5, [.ref q8, .ref q17, .ref q26, .int (nI 0), .ref q34, .int (nI 0), .null])), (q8, .inl (G.2.1, 1972, .inl (fun _ => 0))), (q17, .inl (G.2.1, 7888, .inl (fun _ => 0))), (q26, .inl (G.2.1, 1972, .inl (fun _ => 0))), (q34, .inl (G.2.1, 100, .inl (fun _ => 0)))] H := hP
  have hD : va_D (zAN q sz) [(q, .inr (5, [.ref q8, .ref q17, .ref q26, .int (nI 0), .ref q34, .int (nI 0), .null])), (q8, .inl (G.2.1, 1972, .inl (fun _ => 0))), (q17, .inl (G.2.1, 7888, .inl (fun _ => 0))), (q26, .inl (G.2.1, 1972, .inl (fun _ => 0))), (q34, .inl (G.2.1, 100, .inl (fun _ => 0)))] := hD
  refine lv_aload_n hx hb dX5_init_39 rfl (lv_at hl 0 rfl) ?_
  refine lv_bipush (v := nI 36) hx hb dX5_init_40 (by decide) ?_
  refine va_newa (atype := .int) (a0 := (36, .inl (fun _ => 0))) hx hb (hts (.arrayClass .int) (by decide +kernel)) rfl hG.1 hP hD hS hA (fun cA => rfl) (nI_pos (n := 36) (by omega)) (nI_clamp (n := 36) (by omega)) (Nat.le_of_ble_eq_true rfl) (Nat.le_of_ble_eq_true rfl) (Nat.le_of_ble_eq_true rfl) dX5_init_42 (fun q42 cA H hK1 hP hD hS => ?_)
  obtain rfl := zcA hK1 0 rfl
  clear hK1
  have hP : va_P G.1 vwCl [(q, .inr (5, [.ref q8, .ref q17, .ref q26, .int (nI 0), .ref q34, .int (nI 0), .null])), (q8, .inl (G.2.1, 1972, .inl (fun _ => 0))), (q17, .inl (G.2.1, 7888, .inl (fun _ => 0))), (q26, .inl (G.2.1, 1972, .inl (fun _ => 0))), (q34, .inl (G.2.1, 100, .inl (fun _ => 0))), (q42, .inl (G.2.1, 36, .inl (fun _ => 0)))] H := hP
  have hD : va_D (zAN q sz) [(q, .inr (5, [.ref q8, .ref q17, .ref q26, .int (nI 0), .ref q34, .int (nI 0), .null])), (q8, .inl (G.2.1, 1972, .inl (fun _ => 0))), (q17, .inl (G.2.1, 7888, .inl (fun _ => 0))), (q26, .inl (G.2.1, 1972, .inl (fun _ => 0))), (q34, .inl (G.2.1, 100, .inl (fun _ => 0))), (q42, .inl (G.2.1, 36, .inl (fun _ => 0)))] := hD
  refine va_putF (D := G.1) (ci := 5) (v := .ref q42) (ty := .array (.int)) (C := RX5) (T := TX5) (N := 7) hx hb hts hinX5 tyX5 tyX5_ok nmX5 hown hG.1 hP hD hS 0 rfl rfl 6 (by decide) hf22 (fun _ h9 => h9) rfl hin rfl (by decide +kernel) rfl rfl (Nat.le_of_ble_eq_true rfl) dX5_init_44 (fun H locs hP hD hS => ?_)
  have hP : va_P G.1 vwCl [(q, .inr (5, [.ref q8, .ref q17, .ref q26, .int (nI 0), .ref q34, .int (nI 0), .ref q42])), (q8, .inl (G.2.1, 1972, .inl (fun _ => 0))), (q17, .inl (G.2.1, 7888, .inl (fun _ => 0))), (q26, .inl (G.2.1, 1972, .inl (fun _ => 0))), (q34, .inl (G.2.1, 100, .inl (fun _ => 0))), (q42, .inl (G.2.1, 36, .inl (fun _ => 0)))] H := hP
  have hD : va_D (zAN q sz) [(q, .inr (5, [.ref q8, .ref q17, .ref q26, .int (nI 0), .ref q34, .int (nI 0), .ref q42])), (q8, .inl (G.2.1, 1972, .inl (fun _ => 0))), (q17, .inl (G.2.1, 7888, .inl (fun _ => 0))), (q26, .inl (G.2.1, 1972, .inl (fun _ => 0))), (q34, .inl (G.2.1, 100, .inl (fun _ => 0))), (q42, .inl (G.2.1, 36, .inl (fun _ => 0)))] := hD
  refine lv_aload_n hx hb dX5_init_47 rfl (lv_at hl 0 rfl) ?_
  refine va_get (D := G.1) (ci := 5) (v := .ref q8) (C := RX5) (T := TX5) (N := 7) hx hb hts hinX5 hown hG.1 hP 0 rfl rfl 0 (by decide) hf7 (fun _ h9 => h9) rfl dX5_init_48 ?_
  refine lv_iconst (v := nI 2) hx hb dX5_init_51 (by decide) ?_
  refine lv_iconst (v := nI 1) hx hb dX5_init_52 (by decide) ?_
  refine va_iast hx hb hG.1 hP hD hS 1 0 rfl rfl (vp_in_nI (n := 2) (N := 1972) (by omega) (by omega)) dX5_init_53 (fun H locs hP hD hS => ?_)
  rw [nI_clamp (show 2 < 2 ^ 31 by omega)] at hP hD
  have hP : va_P G.1 vwCl [(q, .inr (5, [.ref q8, .ref q17, .ref q26, .int (nI 0), .ref q34, .int (nI 0), .ref q42])), (q8, .inl (G.2.1, 1972, .inl (upd (fun _ => 0) 2 (nI 1)))), (q17, .inl (G.2.1, 7888, .inl (fun _ => 0))), (q26, .inl (G.2.1, 1972, .inl (fun _ => 0))), (q34, .inl (G.2.1, 100, .inl (fun _ => 0))), (q42, .inl (G.2.1, 36, .inl (fun _ => 0)))] H := hP
  have hD : va_D (zAN q sz) [(q, .inr (5, [.ref q8, .ref q17, .ref q26, .int (nI 0), .ref q34, .int (nI 0), .ref q42])), (q8, .inl (G.2.1, 1972, .inl (upd (fun _ => 0) 2 (nI 1)))), (q17, .inl (G.2.1, 7888, .inl (fun _ => 0))), (q26, .inl (G.2.1, 1972, .inl (fun _ => 0))), (q34, .inl (G.2.1, 100, .inl (fun _ => 0))), (q42, .inl (G.2.1, 36, .inl (fun _ => 0)))] := hD
  refine lv_aload_n hx hb dX5_init_54 rfl (lv_at hl 0 rfl) ?_
  refine va_get (D := G.1) (ci := 5) (v := .ref q8) (C := RX5) (T := TX5) (N := 7) hx hb hts hinX5 hown hG.1 hP 0 rfl rfl 0 (by decide) hf7 (fun _ h9 => h9) rfl dX5_init_55 ?_
  refine lv_iconst (v := nI 3) hx hb dX5_init_58 (by decide) ?_
  refine lv_bipush (v := nI 20) hx hb dX5_init_59 (by decide) ?_
  refine va_iast hx hb hG.1 hP hD hS 1 0 rfl rfl (vp_in_nI (n := 3) (N := 1972) (by omega) (by omega)) dX5_init_61 (fun H locs hP hD hS => ?_)
  rw [nI_clamp (show 3 < 2 ^ 31 by omega)] at hP hD
  have hP : va_P G.1 vwCl [(q, .inr (5, [.ref q8, .ref q17, .ref q26, .int (nI 0), .ref q34, .int (nI 0), .ref q42])), (q8, .inl (G.2.1, 1972, .inl (upd (upd (fun _ => 0) 2 (nI 1)) 3 (nI 20)))), (q17, .inl (G.2.1, 7888, .inl (fun _ => 0))), (q26, .inl (G.2.1, 1972, .inl (fun _ => 0))), (q34, .inl (G.2.1, 100, .inl (fun _ => 0))), (q42, .inl (G.2.1, 36, .inl (fun _ => 0)))] H := hP
  have hD : va_D (zAN q sz) [(q, .inr (5, [.ref q8, .ref q17, .ref q26, .int (nI 0), .ref q34, .int (nI 0), .ref q42])), (q8, .inl (G.2.1, 1972, .inl (upd (upd (fun _ => 0) 2 (nI 1)) 3 (nI 20)))), (q17, .inl (G.2.1, 7888, .inl (fun _ => 0))), (q26, .inl (G.2.1, 1972, .inl (fun _ => 0))), (q34, .inl (G.2.1, 100, .inl (fun _ => 0))), (q42, .inl (G.2.1, 36, .inl (fun _ => 0)))] := hD
  refine lv_aload_n hx hb dX5_init_62 rfl (lv_at hl 0 rfl) ?_
  refine lv_iconst (v := nI 3) hx hb dX5_init_63 (by decide) ?_
  refine lv_iconst (v := nI 2) hx hb dX5_init_64 (by decide) ?_
  have hP : va_P G.1 vwCl (wM G (fun i => ([q, q8, q17, q26, q34, q42] : List Nat).getD i 0) zr2 (fun _ => zr) zr 0 (fun _ => 0) 0 (fun _ => 0)) H := wM_s (m := (fun i => ([q, q8, q17, q26, q34, q42] : List Nat).getD i 0)) (f := upd (upd (fun _ => (0 : Int32)) 2 (nI 1)) 3 (nI 20)) (g := fun _ => 0) (h := fun _ => 0) (B := fun _ => 0) (x := fun _ => 0) (fun j _ => sF_zr2 j) (fun j _ => sF_zr (j % 1972)) (fun j _ => sF_zr j) (fun j _ => rfl) hP
  have hD : va_D (zAN q sz) (wM G (fun i => ([q, q8, q17, q26, q34, q42] : List Nat).getD i 0) zr2 (fun _ => zr) zr 0 (fun _ => 0) 0 (fun _ => 0)) := zD_map (w := [(q, .inr (5, [.ref q8, .ref q17, .ref q26, .int (nI 0), .ref q34, .int (nI 0), .ref q42])), (q8, .inl (G.2.1, 1972, .inl (upd (upd (fun _ => 0) 2 (nI 1)) 3 (nI 20)))), (q17, .inl (G.2.1, 7888, .inl (fun _ => 0))), (q26, .inl (G.2.1, 1972, .inl (fun _ => 0))), (q34, .inl (G.2.1, 100, .inl (fun _ => 0))), (q42, .inl (G.2.1, 36, .inl (fun _ => 0)))]) rfl hD
  refine zwrWv (G := G) (wc' := wM G (fun i => ([q, q8, q17, q26, q34, q42] : List Nat).getD i 0) (bgn 3 2 1 20) (fun _ => zr) zr 0 (fun _ => 0) 0 (fun _ => 0)) (va_runV (As := [.int (nI 3), .int (nI 2)]) (rest := []) ⟨hx, hb, hml, hown, hts⟩ (kX5_begins l G (fun i => ([q, q8, q17, q26, q34, q42] : List Nat).getD i 0) zr2 (fun _ => zr) zr 0 (fun _ => 0) 0 (fun _ => 0) 3 2 (zD_any hD)) (cwV 2 hts gX5_init_X5_begins rfl rfl rfl (by decide +kernel) ⟨Nat.le_of_ble_eq_true rfl, Nat.le_of_ble_eq_true rfl⟩) (zPreV hG (va_recv (q0 := 0) (ci := 5) hG.1 hP rfl rfl) hP) rfl rfl hl.1 rfl (lv_room (Nat.le_of_ble_eq_true rfl)) dX5_init_65 ⟨Nat.le_of_ble_eq_true rfl, Nat.le_of_ble_eq_true rfl⟩) hP hD hS (wM_map ..) (fun H locs hP hD hS => ?_)
  exact hret _ _ _ _ dX5_init_68 hS ⟨(fun i => ([q, q8, q17, q26, q34, q42] : List Nat).getD i 0), rfl, hP, hD⟩
