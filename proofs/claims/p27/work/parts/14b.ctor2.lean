theorem zq_ext {D : va_G} {cl : List vw_C} {q : Nat} {c : ClassId} {n : Nat} {f g : Nat → Option Nat} {H : Heap} (h : ∀ j, j < n → f j = g j) (hP : va_P D cl [(q, .inl (c, n, .inr (.inr (.inr (.inr f)))))] H) : va_P D cl [(q, .inl (c, n, .inr (.inr (.inr (.inr g)))))] H := by
  refine zP_cons.mpr ⟨?_, fun k x hk => by simp at hk⟩
  have h1 := (zP_cons.mp hP).1
  show H[q]? = some (vp_cell _ _)
  rw [vp_cell_q, ← arrV_ext (F := fun j => va_rf (f j)) (fun j hj => by rw [h j hj]), ← vp_cell_q]
  exact h1
def nwH (G : zG) (q sz : Nat) (H : Heap) : Prop := ∃ (h : Nat → Nat) (ha : Nat → Nat → Nat), h 0 = q ∧ va_P G.1 vwCl (wHo G h ha 0 0 ++ wTs G ha (fun _ => bgn 3 2 1 20) 5) H ∧ va_D (zAN q sz) (wHo G h ha 0 0 ++ wTs G ha (fun _ => bgn 3 2 1 20) 5)
def adX (q : Nat) (a h b t : Nat → Nat) (ha : Nat → Nat → Nat) : Nat → Nat → Nat := fun i => if i < 5 then ([fun _ => q, a, h, b, t] : List (Nat → Nat)).getD i a else ha (i - 5)
theorem wX_of (G : zG) (q : Nat) (a h b t : Nat → Nat) (ha : Nat → Nat → Nat) (σ : Nat → Nat) (T : Nat → Nat → Nat) (o n : Nat) (f : Nat → Int32) (x : Nat → Nat) (len : Nat) : wX G (adX q a h b t ha) σ T o n f x len = [(q, .inr (4, [.ref (a 0), .ref (h 0), .ref (b 0), .ref (t 0)]))] ++ (wHo G h ha o n ++ (wTs G ha T 5 ++ (wA G a σ ++ (wB G b f ++ wTx G t x len)))) := by
  have e : aH (adX q a h b t ha) = ha := funext fun i => by
    show adX q a h b t ha (5 + i) = ha i
    unfold adX
    rw [if_neg (by omega), Nat.add_sub_cancel_left]
  unfold wX
  rw [e]
  rfl
def nwX (G : zG) (q sz : Nat) (H : Heap) : Prop := ∃ ad : Nat → Nat → Nat, ad 0 0 = q ∧ va_P G.1 vwCl (wX G ad (bgn 3 2 1 20) (fun _ => bgn 3 2 1 20) 0 0 (fun _ => 0) (fun _ => 0) 0) H ∧ va_D (zAN q sz) (wX G ad (bgn 3 2 1 20) (fun _ => bgn 3 2 1 20) 0 0 (fun _ => 0) (fun _ => 0) 0)
set_option maxHeartbeats 4000000 in
set_option maxRecDepth 100000 in
theorem kX2_init (l : Launch) (G : zG) (q sz : Nat) : Met l yX2_init wsX2_init { frames := 3, cells := 36, slots := 9895, locals := 66 } (zPcO G [.ref q] (fun H => H.size = sz ∧ va_P G.1 vwCl [(q, .inr (2, [.null, .int (nI 0), .int (nI 0)]))] H)) (zQ (zAN q sz) none (nwH G q sz)) 36 9895 (zAN q sz) := by
  refine zmkC (q := q) (sz := sz) (cc := cX2_init) (maxL := 2) (P := va_P G.1 vwCl [(q, .inr (2, [.null, .int (nI 0), .int (nI 0)]))]) (by decide) rfl (Nat.le_of_ble_eq_true rfl) ?_
  intro pr en st mi ar bl me cd ls Q hx hb hml hown hts hG hGO hsz hP hl hS hA hin hret
  have hown : st.vm.findClass RX2 = some mi.cls := hown
  have hl : lv_has ls 2 [(0, .ref q)] := hl
  have hD : va_D (zAN q sz) [(q, .inr (2, [.null, .int (nI 0), .int (nI 0)]))] := ⟨fun i j x y hi hj _ => by have h1 := (List.getElem?_eq_some_iff.mp hi).1; have h2 := (List.getElem?_eq_some_iff.mp hj).1; simp at h1 h2; omega, fun k x hk => by have h1 := (List.getElem?_eq_some_iff.mp hk).1; simp at h1; subst h1; cases hk; exact Or.inl rfl⟩
  have hinX2 : ∀ w ∈ wsX20, w ∈ wsX2_init := by decide +kernel
  have hf13 := hts (.fieldLink RX2 13 "MapSheets$History" "states" "[LMapSheets$Atlas;") (by decide +kernel)
  have hf17 := hts (.fieldLink RX2 17 "MapSheets$History" "oldest" "I") (by decide +kernel)
  have hf21 := hts (.fieldLink RX2 21 "MapSheets$History" "size" "I") (by decide +kernel)
  have hinX0 : ∀ w ∈ wsX00, w ∈ wsX2_init := by decide +kernel
  refine lv_aload_n hx hb dX2_init_0 rfl (lv_at hl 0 rfl) ?_
  refine W.objInit hx hb hown (hts (.methodLink RX2 3 objectInit) (by decide +kernel)) (hts (.instanceMethod objectInit) (by decide +kernel)) (hts (.code objectInit ⟨#[0xb1]⟩ 1 none) (by decide +kernel)) rfl (by rw [hml]; exact hl.1) rfl dX2_init_1 (Nat.le_of_ble_eq_true rfl) (Nat.le_of_ble_eq_true rfl) ?_
  refine W.eq (g2 := F0 mi 4 ls []) rfl ?_
  refine lv_aload_n hx hb dX2_init_4 rfl (lv_at hl 0 rfl) ?_
  refine lv_iconst (v := nI 5) hx hb dX2_init_5 (by decide) ?_
  refine va_newq (C := RX0) hx hb hown (hts (.classLink RX2 11 RX0) (by decide +kernel)) hGO hG.1 hP hD hS hA (nI_pos (n := 5) (by omega)) (nI_clamp (n := 5) (by omega)) (Nat.le_of_ble_eq_true rfl) (Nat.le_of_ble_eq_true rfl) (Nat.le_of_ble_eq_true rfl) dX2_init_6 (fun q6 cA H hK1 hP hD hS => ?_)
  obtain rfl := zcA hK1 2 rfl
  clear hK1
  have hP : va_P G.1 vwCl [(q, .inr (2, [.null, .int (nI 0), .int (nI 0)])), (q6, .inl (G.2.2.2.1, 5, .inr (.inr (.inr (.inr (fun _ => none))))))] H := hP
  have hD : va_D (zAN q sz) [(q, .inr (2, [.null, .int (nI 0), .int (nI 0)])), (q6, .inl (G.2.2.2.1, 5, .inr (.inr (.inr (.inr (fun _ => none))))))] := hD
  refine va_putF (D := G.1) (ci := 2) (v := .ref q6) (ty := .array (.object "MapSheets$Atlas")) (C := RX2) (T := TX2) (N := 3) hx hb hts hinX2 tyX2 tyX2_ok nmX2 hown hG.1 hP hD hS 0 rfl rfl 0 (by decide) hf13 (fun _ h9 => h9) rfl hin rfl (by decide +kernel) rfl rfl (Nat.le_of_ble_eq_true rfl) dX2_init_9 (fun H locs hP hD hS => ?_)
  have hP : va_P G.1 vwCl [(q, .inr (2, [.ref q6, .int (nI 0), .int (nI 0)])), (q6, .inl (G.2.2.2.1, 5, .inr (.inr (.inr (.inr (fun _ => none))))))] H := hP
  have hD : va_D (zAN q sz) [(q, .inr (2, [.ref q6, .int (nI 0), .int (nI 0)])), (q6, .inl (G.2.2.2.1, 5, .inr (.inr (.inr (.inr (fun _ => none))))))] := hD
  refine lv_aload_n hx hb dX2_init_12 rfl (lv_at hl 0 rfl) ?_
  refine lv_iconst (v := nI 0) hx hb dX2_init_13 (by decide) ?_
  refine va_put (D := G.1) (ci := 2) (v := .int (nI 0)) (ty := .int) (C := RX2) (T := TX2) (N := 3) hx hb hts hinX2 tyX2 tyX2_ok nmX2 hown hG.1 hP hD hS 0 rfl rfl 1 (by decide) hf17 (fun _ h9 => h9) rfl (by decide +kernel) rfl rfl (Nat.le_of_ble_eq_true rfl) dX2_init_14 (fun H locs hP hD hS => ?_)
  have hP : va_P G.1 vwCl [(q, .inr (2, [.ref q6, .int (nI 0), .int (nI 0)])), (q6, .inl (G.2.2.2.1, 5, .inr (.inr (.inr (.inr (fun _ => none))))))] H := hP
  have hD : va_D (zAN q sz) [(q, .inr (2, [.ref q6, .int (nI 0), .int (nI 0)])), (q6, .inl (G.2.2.2.1, 5, .inr (.inr (.inr (.inr (fun _ => none))))))] := hD
  refine lv_aload_n hx hb dX2_init_17 rfl (lv_at hl 0 rfl) ?_
  refine lv_iconst (v := nI 0) hx hb dX2_init_18 (by decide) ?_
  refine va_put (D := G.1) (ci := 2) (v := .int (nI 0)) (ty := .int) (C := RX2) (T := TX2) (N := 3) hx hb hts hinX2 tyX2 tyX2_ok nmX2 hown hG.1 hP hD hS 0 rfl rfl 2 (by decide) hf21 (fun _ h9 => h9) rfl (by decide +kernel) rfl rfl (Nat.le_of_ble_eq_true rfl) dX2_init_19 (fun H locs hP hD hS => ?_)
  have hP : va_P G.1 vwCl [(q, .inr (2, [.ref q6, .int (nI 0), .int (nI 0)])), (q6, .inl (G.2.2.2.1, 5, .inr (.inr (.inr (.inr (fun _ => none))))))] H := hP
  have hD : va_D (zAN q sz) [(q, .inr (2, [.ref q6, .int (nI 0), .int (nI 0)])), (q6, .inl (G.2.2.2.1, 5, .inr (.inr (.inr (.inr (fun _ => none))))))] := hD
  refine lv_iconst (v := nI 0) hx hb dX2_init_22 (by decide) ?_
  refine lv_istore_n (lv' := [(1, .int (nI 0)), (0, .ref q)]) hx hb dX2_init_23 rfl hl (by decide) rfl (fun ls hl => ?_)
  refine lv_iload_n hx hb dX2_init_24 rfl (lv_at hl 0 rfl) ?_
  refine lv_aload_n hx hb dX2_init_25 rfl (lv_at hl 1 rfl) ?_
  refine va_get (D := G.1) (ci := 2) (v := .ref q6) (C := RX2) (T := TX2) (N := 3) hx hb hts hinX2 hown hG.1 hP 0 rfl rfl 0 (by decide) hf13 (fun _ h9 => h9) rfl dX2_init_26 ?_
  refine va_alen (v := nI 5) hx hb hG.1 hP 1 2 rfl rfl rfl dX2_init_29 ?_
  refine lv_icmp_ge (tgt := 52) hx hb dX2_init_30 (by decide) (fun h30 => ?_) (fun h30 => ?_)
  · skip
    have h30 : 5 ≤ 0 := (nI_leI (by omega) (by omega)).mp h30
    exfalso; omega
  · skip
    have h30 : ¬ (5 ≤ 0) := fun q => h30 ((nI_leI (by omega) (by omega)).mpr q)
    refine lv_aload_n hx hb dX2_init_33 rfl (lv_at hl 1 rfl) ?_
    refine va_get (D := G.1) (ci := 2) (v := .ref q6) (C := RX2) (T := TX2) (N := 3) hx hb hts hinX2 hown hG.1 hP 0 rfl rfl 0 (by decide) hf13 (fun _ h9 => h9) rfl dX2_init_34 ?_
    refine lv_iload_n hx hb dX2_init_37 rfl (lv_at hl 0 rfl) ?_
    refine va_new (ci := 0) (fs := [.null, .null, .null, .null, .null, .null, .int (nI 0), .int (nI 0), .int (nI 0), .int (nI 0)]) (C := RX0) (T := TX0) (N := 10) hx hb hts hinX0 tyX0 tyX0_ok hown (hts (.classLink RX2 11 RX0) (by decide +kernel)) (hts (.instantiable RX0 10) (by decide +kernel)) (hts (.initialized RX0) (by decide +kernel)) hG.1 hP hD hS hA rfl (fun j hj => by rcases (show j = 0 ∨ j = 1 ∨ j = 2 ∨ j = 3 ∨ j = 4 ∨ j = 5 ∨ j = 6 ∨ j = 7 ∨ j = 8 ∨ j = 9 by omega) with rfl | rfl | rfl | rfl | rfl | rfl | rfl | rfl | rfl | rfl <;> rfl) (Nat.le_of_ble_eq_true rfl) (Nat.le_of_ble_eq_true rfl) dX2_init_38 (fun q1 H hP hD hS => ?_)
    have hP : va_P G.1 vwCl [(q, .inr (2, [.ref q6, .int (nI 0), .int (nI 0)])), (q6, .inl (G.2.2.2.1, 5, .inr (.inr (.inr (.inr (fun _ => none)))))), (q1, .inr (0, [.null, .null, .null, .null, .null, .null, .int (nI 0), .int (nI 0), .int (nI 0), .int (nI 0)]))] H := hP
    have hD : va_D (zAN q sz) [(q, .inr (2, [.ref q6, .int (nI 0), .int (nI 0)])), (q6, .inl (G.2.2.2.1, 5, .inr (.inr (.inr (.inr (fun _ => none)))))), (q1, .inr (0, [.null, .null, .null, .null, .null, .null, .int (nI 0), .int (nI 0), .int (nI 0), .int (nI 0)]))] := hD
    refine lv_dup hx hb dX2_init_41 rfl ?_
    have hPc : va_P G.1 vwCl [(q1, .inr (0, [.null, .null, .null, .null, .null, .null, .int (nI 0), .int (nI 0), .int (nI 0), .int (nI 0)]))] H := hP.sub [2] rfl
    refine zwrC (G := G) (w1 := [(q, .inr (2, [.ref q6, .int (nI 0), .int (nI 0)])), (q6, .inl (G.2.2.2.1, 5, .inr (.inr (.inr (.inr (fun _ => none))))))]) (va_runI (As := []) (rest := [.ref q1, .int (nI 0), .ref q6]) ⟨hx, hb, hml, hown, hts⟩ (kX0_init l G q1 H.size) (cwI 0 hts gX2_init_X0_init rfl rfl rfl (hts (.initialized RX0) (by decide +kernel)) (hts (.methodLink RX2 24 yX0_init) (by decide +kernel)) (hts (.instanceMethod yX0_init) (by decide +kernel)) rfl (by decide +kernel) ⟨Nat.le_of_ble_eq_true rfl, Nat.le_of_ble_eq_true rfl⟩) (zPreO hG hGO ⟨rfl, hPc⟩) rfl rfl hl.1 rfl (lv_room (Nat.le_of_ble_eq_true rfl)) dX2_init_42 ⟨Nat.le_of_ble_eq_true rfl, Nat.le_of_ble_eq_true rfl⟩) hP hD hS hA (fun H locs hB hw hS => ?_)
    obtain ⟨a2, ha20, hPn, hDn⟩ := hB
    subst ha20
    obtain ⟨hP, hD⟩ := hw _ hPn hDn
    have hP : va_P G.1 vwCl ([(q, .inr (2, [.ref q6, .int (nI 0), .int (nI 0)])), (q6, .inl (G.2.2.2.1, 5, .inr (.inr (.inr (.inr (fun _ => none))))))] ++ wA G a2 (bgn 3 2 1 20)) H := hP
    have hD : va_D (zAN q sz) ([(q, .inr (2, [.ref q6, .int (nI 0), .int (nI 0)])), (q6, .inl (G.2.2.2.1, 5, .inr (.inr (.inr (.inr (fun _ => none))))))] ++ wA G a2 (bgn 3 2 1 20)) := hD
    refine va_astq hx hb hG.1 hP hD hS 1 2 2 0 rfl rfl rfl rfl (vp_in_nI (n := 0) (N := 5) (by omega) (by omega)) dX2_init_45 (fun H locs hP hD hS => ?_)
    rw [nI_clamp (show 0 < 2 ^ 31 by omega)] at hP hD
    have hP : va_P G.1 vwCl ([(q, .inr (2, [.ref q6, .int (nI 0), .int (nI 0)])), (q6, .inl (G.2.2.2.1, 5, .inr (.inr (.inr (.inr (va_up (fun _ => none) 0 (some (a2 0))))))))] ++ wA G a2 (bgn 3 2 1 20)) H := hP
    have hD : va_D (zAN q sz) ([(q, .inr (2, [.ref q6, .int (nI 0), .int (nI 0)])), (q6, .inl (G.2.2.2.1, 5, .inr (.inr (.inr (.inr (va_up (fun _ => none) 0 (some (a2 0))))))))] ++ wA G a2 (bgn 3 2 1 20)) := hD
    refine lv_iinc (v := nI 1) (lv' := [(1, .int (nI 1)), (0, .ref q)]) hx hb dX2_init_46 hl (k := 0) rfl (zinc1 _) (by decide) rfl (fun ls hl => ?_)
    refine lv_goto (tgt := 24) hx hb dX2_init_49 (by decide) ?_
    refine lv_iload_n hx hb dX2_init_24 rfl (lv_at hl 0 rfl) ?_
    refine lv_aload_n hx hb dX2_init_25 rfl (lv_at hl 1 rfl) ?_
    refine va_get (D := G.1) (ci := 2) (v := .ref q6) (C := RX2) (T := TX2) (N := 3) hx hb hts hinX2 hown hG.1 hP 0 rfl rfl 0 (by decide) hf13 (fun _ h9 => h9) rfl dX2_init_26 ?_
    refine va_alen (v := nI 5) hx hb hG.1 hP 1 2 rfl rfl rfl dX2_init_29 ?_
    refine lv_icmp_ge (tgt := 52) hx hb dX2_init_30 (by decide) (fun h30 => ?_) (fun h30 => ?_)
    · skip
      have h30 : 5 ≤ 1 := (nI_leI (by omega) (by omega)).mp h30
      exfalso; omega
    · skip
      have h30 : ¬ (5 ≤ 1) := fun q => h30 ((nI_leI (by omega) (by omega)).mpr q)
      refine lv_aload_n hx hb dX2_init_33 rfl (lv_at hl 1 rfl) ?_
      refine va_get (D := G.1) (ci := 2) (v := .ref q6) (C := RX2) (T := TX2) (N := 3) hx hb hts hinX2 hown hG.1 hP 0 rfl rfl 0 (by decide) hf13 (fun _ h9 => h9) rfl dX2_init_34 ?_
      refine lv_iload_n hx hb dX2_init_37 rfl (lv_at hl 0 rfl) ?_
      refine va_new (ci := 0) (fs := [.null, .null, .null, .null, .null, .null, .int (nI 0), .int (nI 0), .int (nI 0), .int (nI 0)]) (C := RX0) (T := TX0) (N := 10) hx hb hts hinX0 tyX0 tyX0_ok hown (hts (.classLink RX2 11 RX0) (by decide +kernel)) (hts (.instantiable RX0 10) (by decide +kernel)) (hts (.initialized RX0) (by decide +kernel)) hG.1 hP hD hS hA rfl (fun j hj => by rcases (show j = 0 ∨ j = 1 ∨ j = 2 ∨ j = 3 ∨ j = 4 ∨ j = 5 ∨ j = 6 ∨ j = 7 ∨ j = 8 ∨ j = 9 by omega) with rfl | rfl | rfl | rfl | rfl | rfl | rfl | rfl | rfl | rfl <;> rfl) (Nat.le_of_ble_eq_true rfl) (Nat.le_of_ble_eq_true rfl) dX2_init_38 (fun q3 H hP hD hS => ?_)
      have hP : va_P G.1 vwCl (([(q, .inr (2, [.ref q6, .int (nI 0), .int (nI 0)])), (q6, .inl (G.2.2.2.1, 5, .inr (.inr (.inr (.inr (va_up (fun _ => none) 0 (some (a2 0))))))))] ++ wA G a2 (bgn 3 2 1 20)) ++ [(q3, .inr (0, [.null, .null, .null, .null, .null, .null, .int (nI 0), .int (nI 0), .int (nI 0), .int (nI 0)]))]) H := hP
      have hD : va_D (zAN q sz) (([(q, .inr (2, [.ref q6, .int (nI 0), .int (nI 0)])), (q6, .inl (G.2.2.2.1, 5, .inr (.inr (.inr (.inr (va_up (fun _ => none) 0 (some (a2 0))))))))] ++ wA G a2 (bgn 3 2 1 20)) ++ [(q3, .inr (0, [.null, .null, .null, .null, .null, .null, .int (nI 0), .int (nI 0), .int (nI 0), .int (nI 0)]))]) := hD
      refine lv_dup hx hb dX2_init_41 rfl ?_
      have hPc : va_P G.1 vwCl [(q3, .inr (0, [.null, .null, .null, .null, .null, .null, .int (nI 0), .int (nI 0), .int (nI 0), .int (nI 0)]))] H := hP.sub [9] rfl
      refine zwrC (G := G) (w1 := ([(q, .inr (2, [.ref q6, .int (nI 0), .int (nI 0)])), (q6, .inl (G.2.2.2.1, 5, .inr (.inr (.inr (.inr (va_up (fun _ => none) 0 (some (a2 0))))))))] ++ wA G a2 (bgn 3 2 1 20))) (va_runI (As := []) (rest := [.ref q3, .int (nI 1), .ref q6]) ⟨hx, hb, hml, hown, hts⟩ (kX0_init l G q3 H.size) (cwI 0 hts gX2_init_X0_init rfl rfl rfl (hts (.initialized RX0) (by decide +kernel)) (hts (.methodLink RX2 24 yX0_init) (by decide +kernel)) (hts (.instanceMethod yX0_init) (by decide +kernel)) rfl (by decide +kernel) ⟨Nat.le_of_ble_eq_true rfl, Nat.le_of_ble_eq_true rfl⟩) (zPreO hG hGO ⟨rfl, hPc⟩) rfl rfl hl.1 rfl (lv_room (Nat.le_of_ble_eq_true rfl)) dX2_init_42 ⟨Nat.le_of_ble_eq_true rfl, Nat.le_of_ble_eq_true rfl⟩) hP hD hS hA (fun H locs hB hw hS => ?_)
      obtain ⟨a4, ha40, hPn, hDn⟩ := hB
      subst ha40
      obtain ⟨hP, hD⟩ := hw _ hPn hDn
      have hP : va_P G.1 vwCl (([(q, .inr (2, [.ref q6, .int (nI 0), .int (nI 0)])), (q6, .inl (G.2.2.2.1, 5, .inr (.inr (.inr (.inr (va_up (fun _ => none) 0 (some (a2 0))))))))] ++ wA G a2 (bgn 3 2 1 20)) ++ wA G a4 (bgn 3 2 1 20)) H := hP
      have hD : va_D (zAN q sz) (([(q, .inr (2, [.ref q6, .int (nI 0), .int (nI 0)])), (q6, .inl (G.2.2.2.1, 5, .inr (.inr (.inr (.inr (va_up (fun _ => none) 0 (some (a2 0))))))))] ++ wA G a2 (bgn 3 2 1 20)) ++ wA G a4 (bgn 3 2 1 20)) := hD
      refine va_astq hx hb hG.1 hP hD hS 1 2 9 0 rfl rfl rfl rfl (vp_in_nI (n := 1) (N := 5) (by omega) (by omega)) dX2_init_45 (fun H locs hP hD hS => ?_)
      rw [nI_clamp (show 1 < 2 ^ 31 by omega)] at hP hD
      have hP : va_P G.1 vwCl (([(q, .inr (2, [.ref q6, .int (nI 0), .int (nI 0)])), (q6, .inl (G.2.2.2.1, 5, .inr (.inr (.inr (.inr (va_up (va_up (fun _ => none) 0 (some (a2 0))) 1 (some (a4 0))))))))] ++ wA G a2 (bgn 3 2 1 20)) ++ wA G a4 (bgn 3 2 1 20)) H := hP
      have hD : va_D (zAN q sz) (([(q, .inr (2, [.ref q6, .int (nI 0), .int (nI 0)])), (q6, .inl (G.2.2.2.1, 5, .inr (.inr (.inr (.inr (va_up (va_up (fun _ => none) 0 (some (a2 0))) 1 (some (a4 0))))))))] ++ wA G a2 (bgn 3 2 1 20)) ++ wA G a4 (bgn 3 2 1 20)) := hD
      refine lv_iinc (v := nI 2) (lv' := [(1, .int (nI 2)), (0, .ref q)]) hx hb dX2_init_46 hl (k := 0) rfl (zinc1 _) (by decide) rfl (fun ls hl => ?_)
      refine lv_goto (tgt := 24) hx hb dX2_init_49 (by decide) ?_
      refine lv_iload_n hx hb dX2_init_24 rfl (lv_at hl 0 rfl) ?_
      refine lv_aload_n hx hb dX2_init_25 rfl (lv_at hl 1 rfl) ?_
      refine va_get (D := G.1) (ci := 2) (v := .ref q6) (C := RX2) (T := TX2) (N := 3) hx hb hts hinX2 hown hG.1 hP 0 rfl rfl 0 (by decide) hf13 (fun _ h9 => h9) rfl dX2_init_26 ?_
      refine va_alen (v := nI 5) hx hb hG.1 hP 1 2 rfl rfl rfl dX2_init_29 ?_
      refine lv_icmp_ge (tgt := 52) hx hb dX2_init_30 (by decide) (fun h30 => ?_) (fun h30 => ?_)
      · skip
        have h30 : 5 ≤ 2 := (nI_leI (by omega) (by omega)).mp h30
        exfalso; omega
      · skip
        have h30 : ¬ (5 ≤ 2) := fun q => h30 ((nI_leI (by omega) (by omega)).mpr q)
        refine lv_aload_n hx hb dX2_init_33 rfl (lv_at hl 1 rfl) ?_
        refine va_get (D := G.1) (ci := 2) (v := .ref q6) (C := RX2) (T := TX2) (N := 3) hx hb hts hinX2 hown hG.1 hP 0 rfl rfl 0 (by decide) hf13 (fun _ h9 => h9) rfl dX2_init_34 ?_
        refine lv_iload_n hx hb dX2_init_37 rfl (lv_at hl 0 rfl) ?_
        refine va_new (ci := 0) (fs := [.null, .null, .null, .null, .null, .null, .int (nI 0), .int (nI 0), .int (nI 0), .int (nI 0)]) (C := RX0) (T := TX0) (N := 10) hx hb hts hinX0 tyX0 tyX0_ok hown (hts (.classLink RX2 11 RX0) (by decide +kernel)) (hts (.instantiable RX0 10) (by decide +kernel)) (hts (.initialized RX0) (by decide +kernel)) hG.1 hP hD hS hA rfl (fun j hj => by rcases (show j = 0 ∨ j = 1 ∨ j = 2 ∨ j = 3 ∨ j = 4 ∨ j = 5 ∨ j = 6 ∨ j = 7 ∨ j = 8 ∨ j = 9 by omega) with rfl | rfl | rfl | rfl | rfl | rfl | rfl | rfl | rfl | rfl <;> rfl) (Nat.le_of_ble_eq_true rfl) (Nat.le_of_ble_eq_true rfl) dX2_init_38 (fun q5 H hP hD hS => ?_)
        have hP : va_P G.1 vwCl ((([(q, .inr (2, [.ref q6, .int (nI 0), .int (nI 0)])), (q6, .inl (G.2.2.2.1, 5, .inr (.inr (.inr (.inr (va_up (va_up (fun _ => none) 0 (some (a2 0))) 1 (some (a4 0))))))))] ++ wA G a2 (bgn 3 2 1 20)) ++ wA G a4 (bgn 3 2 1 20)) ++ [(q5, .inr (0, [.null, .null, .null, .null, .null, .null, .int (nI 0), .int (nI 0), .int (nI 0), .int (nI 0)]))]) H := hP
        have hD : va_D (zAN q sz) ((([(q, .inr (2, [.ref q6, .int (nI 0), .int (nI 0)])), (q6, .inl (G.2.2.2.1, 5, .inr (.inr (.inr (.inr (va_up (va_up (fun _ => none) 0 (some (a2 0))) 1 (some (a4 0))))))))] ++ wA G a2 (bgn 3 2 1 20)) ++ wA G a4 (bgn 3 2 1 20)) ++ [(q5, .inr (0, [.null, .null, .null, .null, .null, .null, .int (nI 0), .int (nI 0), .int (nI 0), .int (nI 0)]))]) := hD
        refine lv_dup hx hb dX2_init_41 rfl ?_
        have hPc : va_P G.1 vwCl [(q5, .inr (0, [.null, .null, .null, .null, .null, .null, .int (nI 0), .int (nI 0), .int (nI 0), .int (nI 0)]))] H := hP.sub [16] rfl
        refine zwrC (G := G) (w1 := (([(q, .inr (2, [.ref q6, .int (nI 0), .int (nI 0)])), (q6, .inl (G.2.2.2.1, 5, .inr (.inr (.inr (.inr (va_up (va_up (fun _ => none) 0 (some (a2 0))) 1 (some (a4 0))))))))] ++ wA G a2 (bgn 3 2 1 20)) ++ wA G a4 (bgn 3 2 1 20))) (va_runI (As := []) (rest := [.ref q5, .int (nI 2), .ref q6]) ⟨hx, hb, hml, hown, hts⟩ (kX0_init l G q5 H.size) (cwI 0 hts gX2_init_X0_init rfl rfl rfl (hts (.initialized RX0) (by decide +kernel)) (hts (.methodLink RX2 24 yX0_init) (by decide +kernel)) (hts (.instanceMethod yX0_init) (by decide +kernel)) rfl (by decide +kernel) ⟨Nat.le_of_ble_eq_true rfl, Nat.le_of_ble_eq_true rfl⟩) (zPreO hG hGO ⟨rfl, hPc⟩) rfl rfl hl.1 rfl (lv_room (Nat.le_of_ble_eq_true rfl)) dX2_init_42 ⟨Nat.le_of_ble_eq_true rfl, Nat.le_of_ble_eq_true rfl⟩) hP hD hS hA (fun H locs hB hw hS => ?_)
        obtain ⟨a6, ha60, hPn, hDn⟩ := hB
        subst ha60
        obtain ⟨hP, hD⟩ := hw _ hPn hDn
        have hP : va_P G.1 vwCl ((([(q, .inr (2, [.ref q6, .int (nI 0), .int (nI 0)])), (q6, .inl (G.2.2.2.1, 5, .inr (.inr (.inr (.inr (va_up (va_up (fun _ => none) 0 (some (a2 0))) 1 (some (a4 0))))))))] ++ wA G a2 (bgn 3 2 1 20)) ++ wA G a4 (bgn 3 2 1 20)) ++ wA G a6 (bgn 3 2 1 20)) H := hP
        have hD : va_D (zAN q sz) ((([(q, .inr (2, [.ref q6, .int (nI 0), .int (nI 0)])), (q6, .inl (G.2.2.2.1, 5, .inr (.inr (.inr (.inr (va_up (va_up (fun _ => none) 0 (some (a2 0))) 1 (some (a4 0))))))))] ++ wA G a2 (bgn 3 2 1 20)) ++ wA G a4 (bgn 3 2 1 20)) ++ wA G a6 (bgn 3 2 1 20)) := hD
        refine va_astq hx hb hG.1 hP hD hS 1 2 16 0 rfl rfl rfl rfl (vp_in_nI (n := 2) (N := 5) (by omega) (by omega)) dX2_init_45 (fun H locs hP hD hS => ?_)
        rw [nI_clamp (show 2 < 2 ^ 31 by omega)] at hP hD
        have hP : va_P G.1 vwCl ((([(q, .inr (2, [.ref q6, .int (nI 0), .int (nI 0)])), (q6, .inl (G.2.2.2.1, 5, .inr (.inr (.inr (.inr (va_up (va_up (va_up (fun _ => none) 0 (some (a2 0))) 1 (some (a4 0))) 2 (some (a6 0))))))))] ++ wA G a2 (bgn 3 2 1 20)) ++ wA G a4 (bgn 3 2 1 20)) ++ wA G a6 (bgn 3 2 1 20)) H := hP
        have hD : va_D (zAN q sz) ((([(q, .inr (2, [.ref q6, .int (nI 0), .int (nI 0)])), (q6, .inl (G.2.2.2.1, 5, .inr (.inr (.inr (.inr (va_up (va_up (va_up (fun _ => none) 0 (some (a2 0))) 1 (some (a4 0))) 2 (some (a6 0))))))))] ++ wA G a2 (bgn 3 2 1 20)) ++ wA G a4 (bgn 3 2 1 20)) ++ wA G a6 (bgn 3 2 1 20)) := hD
        refine lv_iinc (v := nI 3) (lv' := [(1, .int (nI 3)), (0, .ref q)]) hx hb dX2_init_46 hl (k := 0) rfl (zinc1 _) (by decide) rfl (fun ls hl => ?_)
        refine lv_goto (tgt := 24) hx hb dX2_init_49 (by decide) ?_
        refine lv_iload_n hx hb dX2_init_24 rfl (lv_at hl 0 rfl) ?_
        refine lv_aload_n hx hb dX2_init_25 rfl (lv_at hl 1 rfl) ?_
        refine va_get (D := G.1) (ci := 2) (v := .ref q6) (C := RX2) (T := TX2) (N := 3) hx hb hts hinX2 hown hG.1 hP 0 rfl rfl 0 (by decide) hf13 (fun _ h9 => h9) rfl dX2_init_26 ?_
        refine va_alen (v := nI 5) hx hb hG.1 hP 1 2 rfl rfl rfl dX2_init_29 ?_
        refine lv_icmp_ge (tgt := 52) hx hb dX2_init_30 (by decide) (fun h30 => ?_) (fun h30 => ?_)
        · skip
          have h30 : 5 ≤ 3 := (nI_leI (by omega) (by omega)).mp h30
          exfalso; omega
        · skip
          have h30 : ¬ (5 ≤ 3) := fun q => h30 ((nI_leI (by omega) (by omega)).mpr q)
          refine lv_aload_n hx hb dX2_init_33 rfl (lv_at hl 1 rfl) ?_
          refine va_get (D := G.1) (ci := 2) (v := .ref q6) (C := RX2) (T := TX2) (N := 3) hx hb hts hinX2 hown hG.1 hP 0 rfl rfl 0 (by decide) hf13 (fun _ h9 => h9) rfl dX2_init_34 ?_
          refine lv_iload_n hx hb dX2_init_37 rfl (lv_at hl 0 rfl) ?_
          refine va_new (ci := 0) (fs := [.null, .null, .null, .null, .null, .null, .int (nI 0), .int (nI 0), .int (nI 0), .int (nI 0)]) (C := RX0) (T := TX0) (N := 10) hx hb hts hinX0 tyX0 tyX0_ok hown (hts (.classLink RX2 11 RX0) (by decide +kernel)) (hts (.instantiable RX0 10) (by decide +kernel)) (hts (.initialized RX0) (by decide +kernel)) hG.1 hP hD hS hA rfl (fun j hj => by rcases (show j = 0 ∨ j = 1 ∨ j = 2 ∨ j = 3 ∨ j = 4 ∨ j = 5 ∨ j = 6 ∨ j = 7 ∨ j = 8 ∨ j = 9 by omega) with rfl | rfl | rfl | rfl | rfl | rfl | rfl | rfl | rfl | rfl <;> rfl) (Nat.le_of_ble_eq_true rfl) (Nat.le_of_ble_eq_true rfl) dX2_init_38 (fun q7 H hP hD hS => ?_)
          have hP : va_P G.1 vwCl (((([(q, .inr (2, [.ref q6, .int (nI 0), .int (nI 0)])), (q6, .inl (G.2.2.2.1, 5, .inr (.inr (.inr (.inr (va_up (va_up (va_up (fun _ => none) 0 (some (a2 0))) 1 (some (a4 0))) 2 (some (a6 0))))))))] ++ wA G a2 (bgn 3 2 1 20)) ++ wA G a4 (bgn 3 2 1 20)) ++ wA G a6 (bgn 3 2 1 20)) ++ [(q7, .inr (0, [.null, .null, .null, .null, .null, .null, .int (nI 0), .int (nI 0), .int (nI 0), .int (nI 0)]))]) H := hP
          have hD : va_D (zAN q sz) (((([(q, .inr (2, [.ref q6, .int (nI 0), .int (nI 0)])), (q6, .inl (G.2.2.2.1, 5, .inr (.inr (.inr (.inr (va_up (va_up (va_up (fun _ => none) 0 (some (a2 0))) 1 (some (a4 0))) 2 (some (a6 0))))))))] ++ wA G a2 (bgn 3 2 1 20)) ++ wA G a4 (bgn 3 2 1 20)) ++ wA G a6 (bgn 3 2 1 20)) ++ [(q7, .inr (0, [.null, .null, .null, .null, .null, .null, .int (nI 0), .int (nI 0), .int (nI 0), .int (nI 0)]))]) := hD
          refine lv_dup hx hb dX2_init_41 rfl ?_
          have hPc : va_P G.1 vwCl [(q7, .inr (0, [.null, .null, .null, .null, .null, .null, .int (nI 0), .int (nI 0), .int (nI 0), .int (nI 0)]))] H := hP.sub [23] rfl
          refine zwrC (G := G) (w1 := ((([(q, .inr (2, [.ref q6, .int (nI 0), .int (nI 0)])), (q6, .inl (G.2.2.2.1, 5, .inr (.inr (.inr (.inr (va_up (va_up (va_up (fun _ => none) 0 (some (a2 0))) 1 (some (a4 0))) 2 (some (a6 0))))))))] ++ wA G a2 (bgn 3 2 1 20)) ++ wA G a4 (bgn 3 2 1 20)) ++ wA G a6 (bgn 3 2 1 20))) (va_runI (As := []) (rest := [.ref q7, .int (nI 3), .ref q6]) ⟨hx, hb, hml, hown, hts⟩ (kX0_init l G q7 H.size) (cwI 0 hts gX2_init_X0_init rfl rfl rfl (hts (.initialized RX0) (by decide +kernel)) (hts (.methodLink RX2 24 yX0_init) (by decide +kernel)) (hts (.instanceMethod yX0_init) (by decide +kernel)) rfl (by decide +kernel) ⟨Nat.le_of_ble_eq_true rfl, Nat.le_of_ble_eq_true rfl⟩) (zPreO hG hGO ⟨rfl, hPc⟩) rfl rfl hl.1 rfl (lv_room (Nat.le_of_ble_eq_true rfl)) dX2_init_42 ⟨Nat.le_of_ble_eq_true rfl, Nat.le_of_ble_eq_true rfl⟩) hP hD hS hA (fun H locs hB hw hS => ?_)
          obtain ⟨a8, ha80, hPn, hDn⟩ := hB
          subst ha80
          obtain ⟨hP, hD⟩ := hw _ hPn hDn
          have hP : va_P G.1 vwCl (((([(q, .inr (2, [.ref q6, .int (nI 0), .int (nI 0)])), (q6, .inl (G.2.2.2.1, 5, .inr (.inr (.inr (.inr (va_up (va_up (va_up (fun _ => none) 0 (some (a2 0))) 1 (some (a4 0))) 2 (some (a6 0))))))))] ++ wA G a2 (bgn 3 2 1 20)) ++ wA G a4 (bgn 3 2 1 20)) ++ wA G a6 (bgn 3 2 1 20)) ++ wA G a8 (bgn 3 2 1 20)) H := hP
          have hD : va_D (zAN q sz) (((([(q, .inr (2, [.ref q6, .int (nI 0), .int (nI 0)])), (q6, .inl (G.2.2.2.1, 5, .inr (.inr (.inr (.inr (va_up (va_up (va_up (fun _ => none) 0 (some (a2 0))) 1 (some (a4 0))) 2 (some (a6 0))))))))] ++ wA G a2 (bgn 3 2 1 20)) ++ wA G a4 (bgn 3 2 1 20)) ++ wA G a6 (bgn 3 2 1 20)) ++ wA G a8 (bgn 3 2 1 20)) := hD
          refine va_astq hx hb hG.1 hP hD hS 1 2 23 0 rfl rfl rfl rfl (vp_in_nI (n := 3) (N := 5) (by omega) (by omega)) dX2_init_45 (fun H locs hP hD hS => ?_)
          rw [nI_clamp (show 3 < 2 ^ 31 by omega)] at hP hD
          have hP : va_P G.1 vwCl (((([(q, .inr (2, [.ref q6, .int (nI 0), .int (nI 0)])), (q6, .inl (G.2.2.2.1, 5, .inr (.inr (.inr (.inr (va_up (va_up (va_up (va_up (fun _ => none) 0 (some (a2 0))) 1 (some (a4 0))) 2 (some (a6 0))) 3 (some (a8 0))))))))] ++ wA G a2 (bgn 3 2 1 20)) ++ wA G a4 (bgn 3 2 1 20)) ++ wA G a6 (bgn 3 2 1 20)) ++ wA G a8 (bgn 3 2 1 20)) H := hP
          have hD : va_D (zAN q sz) (((([(q, .inr (2, [.ref q6, .int (nI 0), .int (nI 0)])), (q6, .inl (G.2.2.2.1, 5, .inr (.inr (.inr (.inr (va_up (va_up (va_up (va_up (fun _ => none) 0 (some (a2 0))) 1 (some (a4 0))) 2 (some (a6 0))) 3 (some (a8 0))))))))] ++ wA G a2 (bgn 3 2 1 20)) ++ wA G a4 (bgn 3 2 1 20)) ++ wA G a6 (bgn 3 2 1 20)) ++ wA G a8 (bgn 3 2 1 20)) := hD
          refine lv_iinc (v := nI 4) (lv' := [(1, .int (nI 4)), (0, .ref q)]) hx hb dX2_init_46 hl (k := 0) rfl (zinc1 _) (by decide) rfl (fun ls hl => ?_)
          refine lv_goto (tgt := 24) hx hb dX2_init_49 (by decide) ?_
          refine lv_iload_n hx hb dX2_init_24 rfl (lv_at hl 0 rfl) ?_
          refine lv_aload_n hx hb dX2_init_25 rfl (lv_at hl 1 rfl) ?_
          refine va_get (D := G.1) (ci := 2) (v := .ref q6) (C := RX2) (T := TX2) (N := 3) hx hb hts hinX2 hown hG.1 hP 0 rfl rfl 0 (by decide) hf13 (fun _ h9 => h9) rfl dX2_init_26 ?_
          refine va_alen (v := nI 5) hx hb hG.1 hP 1 2 rfl rfl rfl dX2_init_29 ?_
          refine lv_icmp_ge (tgt := 52) hx hb dX2_init_30 (by decide) (fun h30 => ?_) (fun h30 => ?_)
          · skip
            have h30 : 5 ≤ 4 := (nI_leI (by omega) (by omega)).mp h30
            exfalso; omega
          · skip
            have h30 : ¬ (5 ≤ 4) := fun q => h30 ((nI_leI (by omega) (by omega)).mpr q)
            refine lv_aload_n hx hb dX2_init_33 rfl (lv_at hl 1 rfl) ?_
            refine va_get (D := G.1) (ci := 2) (v := .ref q6) (C := RX2) (T := TX2) (N := 3) hx hb hts hinX2 hown hG.1 hP 0 rfl rfl 0 (by decide) hf13 (fun _ h9 => h9) rfl dX2_init_34 ?_
            refine lv_iload_n hx hb dX2_init_37 rfl (lv_at hl 0 rfl) ?_
            refine va_new (ci := 0) (fs := [.null, .null, .null, .null, .null, .null, .int (nI 0), .int (nI 0), .int (nI 0), .int (nI 0)]) (C := RX0) (T := TX0) (N := 10) hx hb hts hinX0 tyX0 tyX0_ok hown (hts (.classLink RX2 11 RX0) (by decide +kernel)) (hts (.instantiable RX0 10) (by decide +kernel)) (hts (.initialized RX0) (by decide +kernel)) hG.1 hP hD hS hA rfl (fun j hj => by rcases (show j = 0 ∨ j = 1 ∨ j = 2 ∨ j = 3 ∨ j = 4 ∨ j = 5 ∨ j = 6 ∨ j = 7 ∨ j = 8 ∨ j = 9 by omega) with rfl | rfl | rfl | rfl | rfl | rfl | rfl | rfl | rfl | rfl <;> rfl) (Nat.le_of_ble_eq_true rfl) (Nat.le_of_ble_eq_true rfl) dX2_init_38 (fun q9 H hP hD hS => ?_)
            have hP : va_P G.1 vwCl ((((([(q, .inr (2, [.ref q6, .int (nI 0), .int (nI 0)])), (q6, .inl (G.2.2.2.1, 5, .inr (.inr (.inr (.inr (va_up (va_up (va_up (va_up (fun _ => none) 0 (some (a2 0))) 1 (some (a4 0))) 2 (some (a6 0))) 3 (some (a8 0))))))))] ++ wA G a2 (bgn 3 2 1 20)) ++ wA G a4 (bgn 3 2 1 20)) ++ wA G a6 (bgn 3 2 1 20)) ++ wA G a8 (bgn 3 2 1 20)) ++ [(q9, .inr (0, [.null, .null, .null, .null, .null, .null, .int (nI 0), .int (nI 0), .int (nI 0), .int (nI 0)]))]) H := hP
            have hD : va_D (zAN q sz) ((((([(q, .inr (2, [.ref q6, .int (nI 0), .int (nI 0)])), (q6, .inl (G.2.2.2.1, 5, .inr (.inr (.inr (.inr (va_up (va_up (va_up (va_up (fun _ => none) 0 (some (a2 0))) 1 (some (a4 0))) 2 (some (a6 0))) 3 (some (a8 0))))))))] ++ wA G a2 (bgn 3 2 1 20)) ++ wA G a4 (bgn 3 2 1 20)) ++ wA G a6 (bgn 3 2 1 20)) ++ wA G a8 (bgn 3 2 1 20)) ++ [(q9, .inr (0, [.null, .null, .null, .null, .null, .null, .int (nI 0), .int (nI 0), .int (nI 0), .int (nI 0)]))]) := hD
            refine lv_dup hx hb dX2_init_41 rfl ?_
            have hPc : va_P G.1 vwCl [(q9, .inr (0, [.null, .null, .null, .null, .null, .null, .int (nI 0), .int (nI 0), .int (nI 0), .int (nI 0)]))] H := hP.sub [30] rfl
            refine zwrC (G := G) (w1 := (((([(q, .inr (2, [.ref q6, .int (nI 0), .int (nI 0)])), (q6, .inl (G.2.2.2.1, 5, .inr (.inr (.inr (.inr (va_up (va_up (va_up (va_up (fun _ => none) 0 (some (a2 0))) 1 (some (a4 0))) 2 (some (a6 0))) 3 (some (a8 0))))))))] ++ wA G a2 (bgn 3 2 1 20)) ++ wA G a4 (bgn 3 2 1 20)) ++ wA G a6 (bgn 3 2 1 20)) ++ wA G a8 (bgn 3 2 1 20))) (va_runI (As := []) (rest := [.ref q9, .int (nI 4), .ref q6]) ⟨hx, hb, hml, hown, hts⟩ (kX0_init l G q9 H.size) (cwI 0 hts gX2_init_X0_init rfl rfl rfl (hts (.initialized RX0) (by decide +kernel)) (hts (.methodLink RX2 24 yX0_init) (by decide +kernel)) (hts (.instanceMethod yX0_init) (by decide +kernel)) rfl (by decide +kernel) ⟨Nat.le_of_ble_eq_true rfl, Nat.le_of_ble_eq_true rfl⟩) (zPreO hG hGO ⟨rfl, hPc⟩) rfl rfl hl.1 rfl (lv_room (Nat.le_of_ble_eq_true rfl)) dX2_init_42 ⟨Nat.le_of_ble_eq_true rfl, Nat.le_of_ble_eq_true rfl⟩) hP hD hS hA (fun H locs hB hw hS => ?_)
            obtain ⟨a10, ha100, hPn, hDn⟩ := hB
            subst ha100
            obtain ⟨hP, hD⟩ := hw _ hPn hDn
            have hP : va_P G.1 vwCl ((((([(q, .inr (2, [.ref q6, .int (nI 0), .int (nI 0)])), (q6, .inl (G.2.2.2.1, 5, .inr (.inr (.inr (.inr (va_up (va_up (va_up (va_up (fun _ => none) 0 (some (a2 0))) 1 (some (a4 0))) 2 (some (a6 0))) 3 (some (a8 0))))))))] ++ wA G a2 (bgn 3 2 1 20)) ++ wA G a4 (bgn 3 2 1 20)) ++ wA G a6 (bgn 3 2 1 20)) ++ wA G a8 (bgn 3 2 1 20)) ++ wA G a10 (bgn 3 2 1 20)) H := hP
            have hD : va_D (zAN q sz) ((((([(q, .inr (2, [.ref q6, .int (nI 0), .int (nI 0)])), (q6, .inl (G.2.2.2.1, 5, .inr (.inr (.inr (.inr (va_up (va_up (va_up (va_up (fun _ => none) 0 (some (a2 0))) 1 (some (a4 0))) 2 (some (a6 0))) 3 (some (a8 0))))))))] ++ wA G a2 (bgn 3 2 1 20)) ++ wA G a4 (bgn 3 2 1 20)) ++ wA G a6 (bgn 3 2 1 20)) ++ wA G a8 (bgn 3 2 1 20)) ++ wA G a10 (bgn 3 2 1 20)) := hD
            refine va_astq hx hb hG.1 hP hD hS 1 2 30 0 rfl rfl rfl rfl (vp_in_nI (n := 4) (N := 5) (by omega) (by omega)) dX2_init_45 (fun H locs hP hD hS => ?_)
            rw [nI_clamp (show 4 < 2 ^ 31 by omega)] at hP hD
            have hP : va_P G.1 vwCl ((((([(q, .inr (2, [.ref q6, .int (nI 0), .int (nI 0)])), (q6, .inl (G.2.2.2.1, 5, .inr (.inr (.inr (.inr (va_up (va_up (va_up (va_up (va_up (fun _ => none) 0 (some (a2 0))) 1 (some (a4 0))) 2 (some (a6 0))) 3 (some (a8 0))) 4 (some (a10 0))))))))] ++ wA G a2 (bgn 3 2 1 20)) ++ wA G a4 (bgn 3 2 1 20)) ++ wA G a6 (bgn 3 2 1 20)) ++ wA G a8 (bgn 3 2 1 20)) ++ wA G a10 (bgn 3 2 1 20)) H := hP
            have hD : va_D (zAN q sz) ((((([(q, .inr (2, [.ref q6, .int (nI 0), .int (nI 0)])), (q6, .inl (G.2.2.2.1, 5, .inr (.inr (.inr (.inr (va_up (va_up (va_up (va_up (va_up (fun _ => none) 0 (some (a2 0))) 1 (some (a4 0))) 2 (some (a6 0))) 3 (some (a8 0))) 4 (some (a10 0))))))))] ++ wA G a2 (bgn 3 2 1 20)) ++ wA G a4 (bgn 3 2 1 20)) ++ wA G a6 (bgn 3 2 1 20)) ++ wA G a8 (bgn 3 2 1 20)) ++ wA G a10 (bgn 3 2 1 20)) := hD
            refine lv_iinc (v := nI 5) (lv' := [(1, .int (nI 5)), (0, .ref q)]) hx hb dX2_init_46 hl (k := 0) rfl (zinc1 _) (by decide) rfl (fun ls hl => ?_)
            refine lv_goto (tgt := 24) hx hb dX2_init_49 (by decide) ?_
            refine lv_iload_n hx hb dX2_init_24 rfl (lv_at hl 0 rfl) ?_
            refine lv_aload_n hx hb dX2_init_25 rfl (lv_at hl 1 rfl) ?_
            refine va_get (D := G.1) (ci := 2) (v := .ref q6) (C := RX2) (T := TX2) (N := 3) hx hb hts hinX2 hown hG.1 hP 0 rfl rfl 0 (by decide) hf13 (fun _ h9 => h9) rfl dX2_init_26 ?_
            refine va_alen (v := nI 5) hx hb hG.1 hP 1 2 rfl rfl rfl dX2_init_29 ?_
            refine lv_icmp_ge (tgt := 52) hx hb dX2_init_30 (by decide) (fun h30 => ?_) (fun h30 => ?_)
            · skip
              have h30 : 5 ≤ 5 := (nI_leI (by omega) (by omega)).mp h30
              have hP : va_P G.1 vwCl ([(q, .inr (2, [.ref q6, .int (nI 0), .int (nI 0)]))] ++ ([(q6, .inl (G.2.2.2.1, 5, .inr (.inr (.inr (.inr (va_up (va_up (va_up (va_up (va_up (fun _ => none) 0 (some (a2 0))) 1 (some (a4 0))) 2 (some (a6 0))) 3 (some (a8 0))) 4 (some (a10 0))))))))] ++ wTs G (fun i => ([a2, a4, a6, a8, a10] : List (Nat → Nat)).getD i a2) (fun _ => bgn 3 2 1 20) 5)) H := hP
              have hD : va_D (zAN q sz) ([(q, .inr (2, [.ref q6, .int (nI 0), .int (nI 0)]))] ++ ([(q6, .inl (G.2.2.2.1, 5, .inr (.inr (.inr (.inr (va_up (va_up (va_up (va_up (va_up (fun _ => none) 0 (some (a2 0))) 1 (some (a4 0))) 2 (some (a6 0))) 3 (some (a8 0))) 4 (some (a10 0))))))))] ++ wTs G (fun i => ([a2, a4, a6, a8, a10] : List (Nat → Nat)).getD i a2) (fun _ => bgn 3 2 1 20) 5)) := hD
              have hPz : va_P G.1 vwCl (wHo G (fun i => ([q, q6] : List Nat).getD i 0) (fun i => ([a2, a4, a6, a8, a10] : List (Nat → Nat)).getD i a2) 0 0 ++ wTs G (fun i => ([a2, a4, a6, a8, a10] : List (Nat → Nat)).getD i a2) (fun _ => bgn 3 2 1 20) 5) H := (zP_l hP).app ((zq_ext (g := fun i => some ((fun i => ([a2, a4, a6, a8, a10] : List (Nat → Nat)).getD i a2) i 0)) (fun j hj => by rcases (show j = 0 ∨ j = 1 ∨ j = 2 ∨ j = 3 ∨ j = 4 by omega) with rfl | rfl | rfl | rfl | rfl <;> rfl) (zP_m hP)).app (zP_r (zP_r hP)))
              have hDz : va_D (zAN q sz) (wHo G (fun i => ([q, q6] : List Nat).getD i 0) (fun i => ([a2, a4, a6, a8, a10] : List (Nat → Nat)).getD i a2) 0 0 ++ wTs G (fun i => ([a2, a4, a6, a8, a10] : List (Nat → Nat)).getD i a2) (fun _ => bgn 3 2 1 20) 5) := zD_map (w := [(q, .inr (2, [.ref q6, .int (nI 0), .int (nI 0)]))] ++ ([(q6, .inl (G.2.2.2.1, 5, .inr (.inr (.inr (.inr (va_up (va_up (va_up (va_up (va_up (fun _ => none) 0 (some (a2 0))) 1 (some (a4 0))) 2 (some (a6 0))) 3 (some (a8 0))) 4 (some (a10 0))))))))] ++ wTs G (fun i => ([a2, a4, a6, a8, a10] : List (Nat → Nat)).getD i a2) (fun _ => bgn 3 2 1 20) 5)) rfl hD
              exact hret _ _ _ _ dX2_init_52 hS ⟨(fun i => ([q, q6] : List Nat).getD i 0), (fun i => ([a2, a4, a6, a8, a10] : List (Nat → Nat)).getD i a2), rfl, hPz, hDz⟩
            · skip
              have h30 : ¬ (5 ≤ 5) := fun q => h30 ((nI_leI (by omega) (by omega)).mpr q)
              exfalso; omega
set_option maxHeartbeats 4000000 in
set_option maxRecDepth 100000 in
theorem kX4_init (l : Launch) (G : zG) (q sz : Nat) : Met l yX4_init wsX4_init { frames := 4, cells := 48, slots := 12015, locals := 87 } (zPcO G [.ref q] (fun H => H.size = sz ∧ va_P G.1 vwCl [(q, .inr (4, [.null, .null, .null, .null]))] H)) (zQ (zAN q sz) none (nwX G q sz)) 48 12015 (zAN q sz) := by
  refine zmkC (q := q) (sz := sz) (cc := cX4_init) (maxL := 1) (P := va_P G.1 vwCl [(q, .inr (4, [.null, .null, .null, .null]))]) (by decide) rfl (Nat.le_of_ble_eq_true rfl) ?_
  intro pr en st mi ar bl me cd ls Q hx hb hml hown hts hG hGO hsz hP hl hS hA hin hret
  have hown : st.vm.findClass RX4 = some mi.cls := hown
  have hl : lv_has ls 1 [(0, .ref q)] := hl
  have hD : va_D (zAN q sz) [(q, .inr (4, [.null, .null, .null, .null]))] := ⟨fun i j x y hi hj _ => by have h1 := (List.getElem?_eq_some_iff.mp hi).1; have h2 := (List.getElem?_eq_some_iff.mp hj).1; simp at h1 h2; omega, fun k x hk => by have h1 := (List.getElem?_eq_some_iff.mp hk).1; simp at h1; subst h1; cases hk; exact Or.inl rfl⟩
  have hinX0 : ∀ w ∈ wsX00, w ∈ wsX4_init := by decide +kernel
  have hinX4 : ∀ w ∈ wsX40, w ∈ wsX4_init := by decide +kernel
  have hf10 := hts (.fieldLink RX4 10 "MapSheets" "now" "LMapSheets$Atlas;") (by decide +kernel)
  have hinX2 : ∀ w ∈ wsX20, w ∈ wsX4_init := by decide +kernel
  have hf19 := hts (.fieldLink RX4 19 "MapSheets" "history" "LMapSheets$History;") (by decide +kernel)
  have hinX1 : ∀ w ∈ wsX10, w ∈ wsX4_init := by decide +kernel
  have hf26 := hts (.fieldLink RX4 26 "MapSheets" "blocks" "LMapSheets$Blocks;") (by decide +kernel)
  have hinX3 : ∀ w ∈ wsX30, w ∈ wsX4_init := by decide +kernel
  have hf33 := hts (.fieldLink RX4 33 "MapSheets" "text" "LMapSheets$SignText;") (by decide +kernel)
  refine lv_aload_n hx hb dX4_init_0 rfl (lv_at hl 0 rfl) ?_
  refine W.objInit hx hb hown (hts (.methodLink RX4 1 objectInit) (by decide +kernel)) (hts (.instanceMethod objectInit) (by decide +kernel)) (hts (.code objectInit ⟨#[0xb1]⟩ 1 none) (by decide +kernel)) rfl (by rw [hml]; exact hl.1) rfl dX4_init_1 (Nat.le_of_ble_eq_true rfl) (Nat.le_of_ble_eq_true rfl) ?_
  refine W.eq (g2 := F0 mi 4 ls []) rfl ?_
  refine lv_aload_n hx hb dX4_init_4 rfl (lv_at hl 0 rfl) ?_
  refine va_new (ci := 0) (fs := [.null, .null, .null, .null, .null, .null, .int (nI 0), .int (nI 0), .int (nI 0), .int (nI 0)]) (C := RX0) (T := TX0) (N := 10) hx hb hts hinX0 tyX0 tyX0_ok hown (hts (.classLink RX4 7 RX0) (by decide +kernel)) (hts (.instantiable RX0 10) (by decide +kernel)) (hts (.initialized RX0) (by decide +kernel)) hG.1 hP hD hS hA rfl (fun j hj => by rcases (show j = 0 ∨ j = 1 ∨ j = 2 ∨ j = 3 ∨ j = 4 ∨ j = 5 ∨ j = 6 ∨ j = 7 ∨ j = 8 ∨ j = 9 by omega) with rfl | rfl | rfl | rfl | rfl | rfl | rfl | rfl | rfl | rfl <;> rfl) (Nat.le_of_ble_eq_true rfl) (Nat.le_of_ble_eq_true rfl) dX4_init_5 (fun q5 H hP hD hS => ?_)
  have hP : va_P G.1 vwCl [(q, .inr (4, [.null, .null, .null, .null])), (q5, .inr (0, [.null, .null, .null, .null, .null, .null, .int (nI 0), .int (nI 0), .int (nI 0), .int (nI 0)]))] H := hP
  have hD : va_D (zAN q sz) [(q, .inr (4, [.null, .null, .null, .null])), (q5, .inr (0, [.null, .null, .null, .null, .null, .null, .int (nI 0), .int (nI 0), .int (nI 0), .int (nI 0)]))] := hD
  refine lv_dup hx hb dX4_init_8 rfl ?_
  have hPc : va_P G.1 vwCl [(q5, .inr (0, [.null, .null, .null, .null, .null, .null, .int (nI 0), .int (nI 0), .int (nI 0), .int (nI 0)]))] H := hP.sub [1] rfl
  refine zwrC (G := G) (w1 := [(q, .inr (4, [.null, .null, .null, .null]))]) (va_runI (As := []) (rest := [.ref q5, .ref q]) ⟨hx, hb, hml, hown, hts⟩ (kX0_init l G q5 H.size) (cwI 0 hts gX4_init_X0_init rfl rfl rfl (hts (.initialized RX0) (by decide +kernel)) (hts (.methodLink RX4 9 yX0_init) (by decide +kernel)) (hts (.instanceMethod yX0_init) (by decide +kernel)) rfl (by decide +kernel) ⟨Nat.le_of_ble_eq_true rfl, Nat.le_of_ble_eq_true rfl⟩) (zPreO hG hGO ⟨rfl, hPc⟩) rfl rfl hl.1 rfl (lv_room (Nat.le_of_ble_eq_true rfl)) dX4_init_9 ⟨Nat.le_of_ble_eq_true rfl, Nat.le_of_ble_eq_true rfl⟩) hP hD hS hA (fun H locs hB hw hS => ?_)
  obtain ⟨a9, ha90, hPn, hDn⟩ := hB
  subst ha90
  obtain ⟨hP, hD⟩ := hw _ hPn hDn
  have hP : va_P G.1 vwCl ([(q, .inr (4, [.null, .null, .null, .null]))] ++ wA G a9 (bgn 3 2 1 20)) H := hP
  have hD : va_D (zAN q sz) ([(q, .inr (4, [.null, .null, .null, .null]))] ++ wA G a9 (bgn 3 2 1 20)) := hD
  refine va_putF (D := G.1) (ci := 4) (v := .ref (a9 0)) (ty := .object "MapSheets$Atlas") (C := RX4) (T := TX4) (N := 4) hx hb hts hinX4 tyX4 tyX4_ok nmX4 hown hG.1 hP hD hS 0 rfl rfl 0 (by decide) hf10 (fun _ h9 => h9) rfl hin rfl (by decide +kernel) rfl rfl (Nat.le_of_ble_eq_true rfl) dX4_init_12 (fun H locs hP hD hS => ?_)
  have hP : va_P G.1 vwCl ([(q, .inr (4, [.ref (a9 0), .null, .null, .null]))] ++ wA G a9 (bgn 3 2 1 20)) H := hP
  have hD : va_D (zAN q sz) ([(q, .inr (4, [.ref (a9 0), .null, .null, .null]))] ++ wA G a9 (bgn 3 2 1 20)) := hD
  refine lv_aload_n hx hb dX4_init_15 rfl (lv_at hl 0 rfl) ?_
  refine va_new (ci := 2) (fs := [.null, .int (nI 0), .int (nI 0)]) (C := RX2) (T := TX2) (N := 3) hx hb hts hinX2 tyX2 tyX2_ok hown (hts (.classLink RX4 16 RX2) (by decide +kernel)) (hts (.instantiable RX2 3) (by decide +kernel)) (hts (.initialized RX2) (by decide +kernel)) hG.1 hP hD hS hA rfl (fun j hj => by rcases (show j = 0 ∨ j = 1 ∨ j = 2 by omega) with rfl | rfl | rfl <;> rfl) (Nat.le_of_ble_eq_true rfl) (Nat.le_of_ble_eq_true rfl) dX4_init_16 (fun q16 H hP hD hS => ?_)
  have hP : va_P G.1 vwCl (([(q, .inr (4, [.ref (a9 0), .null, .null, .null]))] ++ wA G a9 (bgn 3 2 1 20)) ++ [(q16, .inr (2, [.null, .int (nI 0), .int (nI 0)]))]) H := hP
  have hD : va_D (zAN q sz) (([(q, .inr (4, [.ref (a9 0), .null, .null, .null]))] ++ wA G a9 (bgn 3 2 1 20)) ++ [(q16, .inr (2, [.null, .int (nI 0), .int (nI 0)]))]) := hD
  refine lv_dup hx hb dX4_init_19 rfl ?_
  have hPc : va_P G.1 vwCl [(q16, .inr (2, [.null, .int (nI 0), .int (nI 0)]))] H := hP.sub [8] rfl
  refine zwrC (G := G) (w1 := ([(q, .inr (4, [.ref (a9 0), .null, .null, .null]))] ++ wA G a9 (bgn 3 2 1 20))) (va_runI (As := []) (rest := [.ref q16, .ref q]) ⟨hx, hb, hml, hown, hts⟩ (kX2_init l G q16 H.size) (cwI 0 hts gX4_init_X2_init rfl rfl rfl (hts (.initialized RX2) (by decide +kernel)) (hts (.methodLink RX4 18 yX2_init) (by decide +kernel)) (hts (.instanceMethod yX2_init) (by decide +kernel)) rfl (by decide +kernel) ⟨Nat.le_of_ble_eq_true rfl, Nat.le_of_ble_eq_true rfl⟩) (zPreO hG hGO ⟨rfl, hPc⟩) rfl rfl hl.1 rfl (lv_room (Nat.le_of_ble_eq_true rfl)) dX4_init_20 ⟨Nat.le_of_ble_eq_true rfl, Nat.le_of_ble_eq_true rfl⟩) hP hD hS hA (fun H locs hB hw hS => ?_)
  obtain ⟨z20, ha, hz200, hPn, hDn⟩ := hB
  subst hz200
  obtain ⟨hP, hD⟩ := hw _ hPn hDn
  have hP : va_P G.1 vwCl (([(q, .inr (4, [.ref (a9 0), .null, .null, .null]))] ++ wA G a9 (bgn 3 2 1 20)) ++ (wHo G z20 ha 0 0 ++ wTs G ha (fun _ => bgn 3 2 1 20) 5)) H := hP
  have hD : va_D (zAN q sz) (([(q, .inr (4, [.ref (a9 0), .null, .null, .null]))] ++ wA G a9 (bgn 3 2 1 20)) ++ (wHo G z20 ha 0 0 ++ wTs G ha (fun _ => bgn 3 2 1 20) 5)) := hD
  refine va_putF (D := G.1) (ci := 4) (v := .ref (z20 0)) (ty := .object "MapSheets$History") (C := RX4) (T := TX4) (N := 4) hx hb hts hinX4 tyX4 tyX4_ok nmX4 hown hG.1 hP hD hS 0 rfl rfl 1 (by decide) hf19 (fun _ h9 => h9) rfl hin rfl (by decide +kernel) rfl rfl (Nat.le_of_ble_eq_true rfl) dX4_init_23 (fun H locs hP hD hS => ?_)
  have hP : va_P G.1 vwCl (([(q, .inr (4, [.ref (a9 0), .ref (z20 0), .null, .null]))] ++ wA G a9 (bgn 3 2 1 20)) ++ (wHo G z20 ha 0 0 ++ wTs G ha (fun _ => bgn 3 2 1 20) 5)) H := hP
  have hD : va_D (zAN q sz) (([(q, .inr (4, [.ref (a9 0), .ref (z20 0), .null, .null]))] ++ wA G a9 (bgn 3 2 1 20)) ++ (wHo G z20 ha 0 0 ++ wTs G ha (fun _ => bgn 3 2 1 20) 5)) := hD
  refine lv_aload_n hx hb dX4_init_26 rfl (lv_at hl 0 rfl) ?_
  refine va_new (ci := 1) (fs := [.null]) (C := RX1) (T := TX1) (N := 1) hx hb hts hinX1 tyX1 tyX1_ok hown (hts (.classLink RX4 23 RX1) (by decide +kernel)) (hts (.instantiable RX1 1) (by decide +kernel)) (hts (.initialized RX1) (by decide +kernel)) hG.1 hP hD hS hA rfl (fun j hj => by rcases (show j = 0 by omega) with rfl <;> rfl) (Nat.le_of_ble_eq_true rfl) (Nat.le_of_ble_eq_true rfl) dX4_init_27 (fun q27 H hP hD hS => ?_)
  have hP : va_P G.1 vwCl ((([(q, .inr (4, [.ref (a9 0), .ref (z20 0), .null, .null]))] ++ wA G a9 (bgn 3 2 1 20)) ++ (wHo G z20 ha 0 0 ++ wTs G ha (fun _ => bgn 3 2 1 20) 5)) ++ [(q27, .inr (1, [.null]))]) H := hP
  have hD : va_D (zAN q sz) ((([(q, .inr (4, [.ref (a9 0), .ref (z20 0), .null, .null]))] ++ wA G a9 (bgn 3 2 1 20)) ++ (wHo G z20 ha 0 0 ++ wTs G ha (fun _ => bgn 3 2 1 20) 5)) ++ [(q27, .inr (1, [.null]))]) := hD
  refine lv_dup hx hb dX4_init_30 rfl ?_
  have hPc : va_P G.1 vwCl [(q27, .inr (1, [.null]))] H := hP.sub [45] rfl
  refine zwrC (G := G) (w1 := (([(q, .inr (4, [.ref (a9 0), .ref (z20 0), .null, .null]))] ++ wA G a9 (bgn 3 2 1 20)) ++ (wHo G z20 ha 0 0 ++ wTs G ha (fun _ => bgn 3 2 1 20) 5))) (va_runIN (As := []) (rest := [.ref q27, .ref q]) ⟨hx, hb, hml, hown, hts⟩ (kX1_init l G q27 H.size) ⟨va_cnB 0 hts gX4_init_X1_init_n25 rfl rfl rfl (hG.2.1) (hts (.initialized RX1) (by decide +kernel)) (by decide +kernel) ⟨Nat.le_of_ble_eq_true rfl, Nat.le_of_ble_eq_true rfl⟩, rfl, hts (.instanceMethod yX1_init) (by decide +kernel)⟩ (zPreO hG hGO ⟨rfl, hPc⟩) rfl rfl hl.1 rfl (lv_room (Nat.le_of_ble_eq_true rfl)) dX4_init_31 ⟨Nat.le_of_ble_eq_true rfl, Nat.le_of_ble_eq_true rfl⟩) hP hD hS hA (fun H locs hB hw hS => ?_)
  obtain ⟨b31, hb310, hPn, hDn⟩ := hB
  subst hb310
  obtain ⟨hP, hD⟩ := hw _ hPn hDn
  have hP : va_P G.1 vwCl ((([(q, .inr (4, [.ref (a9 0), .ref (z20 0), .null, .null]))] ++ wA G a9 (bgn 3 2 1 20)) ++ (wHo G z20 ha 0 0 ++ wTs G ha (fun _ => bgn 3 2 1 20) 5)) ++ wB G b31 (fun _ => 0)) H := hP
  have hD : va_D (zAN q sz) ((([(q, .inr (4, [.ref (a9 0), .ref (z20 0), .null, .null]))] ++ wA G a9 (bgn 3 2 1 20)) ++ (wHo G z20 ha 0 0 ++ wTs G ha (fun _ => bgn 3 2 1 20) 5)) ++ wB G b31 (fun _ => 0)) := hD
  refine va_putF (D := G.1) (ci := 4) (v := .ref (b31 0)) (ty := .object "MapSheets$Blocks") (C := RX4) (T := TX4) (N := 4) hx hb hts hinX4 tyX4 tyX4_ok nmX4 hown hG.1 hP hD hS 0 rfl rfl 2 (by decide) hf26 (fun _ h9 => h9) rfl hin rfl (by decide +kernel) rfl rfl (Nat.le_of_ble_eq_true rfl) dX4_init_34 (fun H locs hP hD hS => ?_)
  have hP : va_P G.1 vwCl ((([(q, .inr (4, [.ref (a9 0), .ref (z20 0), .ref (b31 0), .null]))] ++ wA G a9 (bgn 3 2 1 20)) ++ (wHo G z20 ha 0 0 ++ wTs G ha (fun _ => bgn 3 2 1 20) 5)) ++ wB G b31 (fun _ => 0)) H := hP
  have hD : va_D (zAN q sz) ((([(q, .inr (4, [.ref (a9 0), .ref (z20 0), .ref (b31 0), .null]))] ++ wA G a9 (bgn 3 2 1 20)) ++ (wHo G z20 ha 0 0 ++ wTs G ha (fun _ => bgn 3 2 1 20) 5)) ++ wB G b31 (fun _ => 0)) := hD
  refine lv_aload_n hx hb dX4_init_37 rfl (lv_at hl 0 rfl) ?_
  refine va_new (ci := 3) (fs := [.null, .int (nI 0)]) (C := RX3) (T := TX3) (N := 2) hx hb hts hinX3 tyX3 tyX3_ok hown (hts (.classLink RX4 30 RX3) (by decide +kernel)) (hts (.instantiable RX3 2) (by decide +kernel)) (hts (.initialized RX3) (by decide +kernel)) hG.1 hP hD hS hA rfl (fun j hj => by rcases (show j = 0 ∨ j = 1 by omega) with rfl | rfl <;> rfl) (Nat.le_of_ble_eq_true rfl) (Nat.le_of_ble_eq_true rfl) dX4_init_38 (fun q38 H hP hD hS => ?_)
  have hP : va_P G.1 vwCl (((([(q, .inr (4, [.ref (a9 0), .ref (z20 0), .ref (b31 0), .null]))] ++ wA G a9 (bgn 3 2 1 20)) ++ (wHo G z20 ha 0 0 ++ wTs G ha (fun _ => bgn 3 2 1 20) 5)) ++ wB G b31 (fun _ => 0)) ++ [(q38, .inr (3, [.null, .int (nI 0)]))]) H := hP
  have hD : va_D (zAN q sz) (((([(q, .inr (4, [.ref (a9 0), .ref (z20 0), .ref (b31 0), .null]))] ++ wA G a9 (bgn 3 2 1 20)) ++ (wHo G z20 ha 0 0 ++ wTs G ha (fun _ => bgn 3 2 1 20) 5)) ++ wB G b31 (fun _ => 0)) ++ [(q38, .inr (3, [.null, .int (nI 0)]))]) := hD
  refine lv_dup hx hb dX4_init_41 rfl ?_
  have hPc : va_P G.1 vwCl [(q38, .inr (3, [.null, .int (nI 0)]))] H := hP.sub [47] rfl
  refine zwrC (G := G) (w1 := ((([(q, .inr (4, [.ref (a9 0), .ref (z20 0), .ref (b31 0), .null]))] ++ wA G a9 (bgn 3 2 1 20)) ++ (wHo G z20 ha 0 0 ++ wTs G ha (fun _ => bgn 3 2 1 20) 5)) ++ wB G b31 (fun _ => 0))) (va_runIN (As := []) (rest := [.ref q38, .ref q]) ⟨hx, hb, hml, hown, hts⟩ (kX3_init l G q38 H.size) ⟨va_cnB 0 hts gX4_init_X3_init_n32 rfl rfl rfl (hG.2.2.1) (hts (.initialized RX3) (by decide +kernel)) (by decide +kernel) ⟨Nat.le_of_ble_eq_true rfl, Nat.le_of_ble_eq_true rfl⟩, rfl, hts (.instanceMethod yX3_init) (by decide +kernel)⟩ (zPreO hG hGO ⟨rfl, hPc⟩) rfl rfl hl.1 rfl (lv_room (Nat.le_of_ble_eq_true rfl)) dX4_init_42 ⟨Nat.le_of_ble_eq_true rfl, Nat.le_of_ble_eq_true rfl⟩) hP hD hS hA (fun H locs hB hw hS => ?_)
  obtain ⟨t42, ht420, hPn, hDn⟩ := hB
  subst ht420
  obtain ⟨hP, hD⟩ := hw _ hPn hDn
  have hP : va_P G.1 vwCl (((([(q, .inr (4, [.ref (a9 0), .ref (z20 0), .ref (b31 0), .null]))] ++ wA G a9 (bgn 3 2 1 20)) ++ (wHo G z20 ha 0 0 ++ wTs G ha (fun _ => bgn 3 2 1 20) 5)) ++ wB G b31 (fun _ => 0)) ++ wTx G t42 (fun _ => 0) 0) H := hP
  have hD : va_D (zAN q sz) (((([(q, .inr (4, [.ref (a9 0), .ref (z20 0), .ref (b31 0), .null]))] ++ wA G a9 (bgn 3 2 1 20)) ++ (wHo G z20 ha 0 0 ++ wTs G ha (fun _ => bgn 3 2 1 20) 5)) ++ wB G b31 (fun _ => 0)) ++ wTx G t42 (fun _ => 0) 0) := hD
  refine va_putF (D := G.1) (ci := 4) (v := .ref (t42 0)) (ty := .object "MapSheets$SignText") (C := RX4) (T := TX4) (N := 4) hx hb hts hinX4 tyX4 tyX4_ok nmX4 hown hG.1 hP hD hS 0 rfl rfl 3 (by decide) hf33 (fun _ h9 => h9) rfl hin rfl (by decide +kernel) rfl rfl (Nat.le_of_ble_eq_true rfl) dX4_init_45 (fun H locs hP hD hS => ?_)
  have hP : va_P G.1 vwCl (((([(q, .inr (4, [.ref (a9 0), .ref (z20 0), .ref (b31 0), .ref (t42 0)]))] ++ wA G a9 (bgn 3 2 1 20)) ++ (wHo G z20 ha 0 0 ++ wTs G ha (fun _ => bgn 3 2 1 20) 5)) ++ wB G b31 (fun _ => 0)) ++ wTx G t42 (fun _ => 0) 0) H := hP
  have hD : va_D (zAN q sz) (((([(q, .inr (4, [.ref (a9 0), .ref (z20 0), .ref (b31 0), .ref (t42 0)]))] ++ wA G a9 (bgn 3 2 1 20)) ++ (wHo G z20 ha 0 0 ++ wTs G ha (fun _ => bgn 3 2 1 20) 5)) ++ wB G b31 (fun _ => 0)) ++ wTx G t42 (fun _ => 0) 0) := hD
  have hP : va_P G.1 vwCl (((([(q, .inr (4, [.ref (a9 0), .ref (z20 0), .ref (b31 0), .ref (t42 0)]))] ++ wA G a9 (bgn 3 2 1 20)) ++ (wHo G z20 ha 0 0 ++ wTs G ha (fun _ => bgn 3 2 1 20) 5)) ++ wB G b31 (fun _ => 0)) ++ wTx G t42 (fun _ => 0) 0) H := hP
  have hD : va_D (zAN q sz) (((([(q, .inr (4, [.ref (a9 0), .ref (z20 0), .ref (b31 0), .ref (t42 0)]))] ++ wA G a9 (bgn 3 2 1 20)) ++ (wHo G z20 ha 0 0 ++ wTs G ha (fun _ => bgn 3 2 1 20) 5)) ++ wB G b31 (fun _ => 0)) ++ wTx G t42 (fun _ => 0) 0) := hD
  have hPz : va_P G.1 vwCl (wX G (adX q a9 z20 b31 t42 ha) (bgn 3 2 1 20) (fun _ => bgn 3 2 1 20) 0 0 (fun _ => 0) (fun _ => 0) 0) H := by
    rw [wX_of]
    exact (zP_l (zP_l (zP_l (zP_l hP)))).app ((zP_l (zP_r (zP_l (zP_l hP)))).app ((zP_r (zP_r (zP_l (zP_l hP)))).app ((zP_r (zP_l (zP_l (zP_l hP)))).app ((zP_r (zP_l hP)).app (zP_r hP)))))
  have hDz : va_D (zAN q sz) (wX G (adX q a9 z20 b31 t42 ha) (bgn 3 2 1 20) (fun _ => bgn 3 2 1 20) 0 0 (fun _ => 0) (fun _ => 0) 0) := by
    rw [wX_of]
    exact hD.sub [0, 8, 9, 10, 11, 12, 13, 14, 15, 16, 17, 18, 19, 20, 21, 22, 23, 24, 25, 26, 27, 28, 29, 30, 31, 32, 33, 34, 35, 36, 37, 38, 39, 40, 41, 42, 43, 44, 1, 2, 3, 4, 5, 6, 7, 45, 46, 47, 48] (by decide) rfl
  exact hret _ _ _ _ dX4_init_48 hS ⟨adX q a9 z20 b31 t42 ha, rfl, hPz, hDz⟩
