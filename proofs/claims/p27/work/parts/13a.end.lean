/-! the whole class's cells: ad 0 0 the object, ad 1 now, ad 2 the history, ad 3 the blocks, ad 4 the text, ad (5 + i) the states of the history -/
abbrev aH (ad : Nat → Nat → Nat) : Nat → Nat → Nat := fun i => ad (5 + i)
def wX0 (ad : Nat → Nat → Nat) : va_W := [(ad 0 0, .inr (4, [.ref (ad 1 0), .ref (ad 2 0), .ref (ad 3 0), .ref (ad 4 0)]))]
def wX (G : zG) (ad : Nat → Nat → Nat) (σ : Nat → Nat) (T : Nat → Nat → Nat) (o n : Nat) (f : Nat → Int32) (x : Nat → Nat) (len : Nat) : va_W :=
  wX0 ad ++ (wHo G (ad 2) (aH ad) o n ++ (wTs G (aH ad) T 5 ++ (wA G (ad 1) σ ++ (wB G (ad 3) f ++ wTx G (ad 4) x len))))
theorem wTs_map (G : zG) (ha : Nat → Nat → Nat) (T T' : Nat → Nat → Nat) (m : Nat) : (wTs G ha T m).map (·.1) = (wTs G ha T' m).map (·.1) := by
  induction m with
  | zero => rfl
  | succ m ih => rw [wTs, wTs, List.map_append, List.map_append, ih]; rfl
theorem wHA_map (G : zG) (h : Nat → Nat) (ha : Nat → Nat → Nat) (o n o' n' : Nat) (T T' : Nat → Nat → Nat) (a σ σ' : Nat → Nat) : (wHo G h ha o' n' ++ (wTs G ha T' 5 ++ wA G a σ')).map (·.1) = (wHo G h ha o n ++ (wTs G ha T 5 ++ wA G a σ)).map (·.1) := by
  rw [List.map_append, List.map_append, List.map_append, List.map_append, wTs_map G ha T' T]
  rfl
theorem wX_map (G : zG) (ad : Nat → Nat → Nat) (σ σ' : Nat → Nat) (T T' : Nat → Nat → Nat) (o n o' n' : Nat) (f f' : Nat → Int32) (x x' : Nat → Nat) (len len' : Nat) : (wX G ad σ' T' o' n' f' x' len').map (·.1) = (wX G ad σ T o n f x len).map (·.1) := by
  unfold wX
  simp only [List.map_append]
  rw [wTs_map G (aH ad) T' T]
  rfl
section WX
variable {G : zG} {ad : Nat → Nat → Nat} {σ : Nat → Nat} {T : Nat → Nat → Nat} {o n : Nat} {f : Nat → Int32} {x : Nat → Nat} {len : Nat}
theorem wX_eH : wX G ad σ T o n f x len = wX0 ad ++ (wHo G (ad 2) (aH ad) o n ++ (wTs G (aH ad) T 5 ++ (wA G (ad 1) σ ++ (wB G (ad 3) f ++ wTx G (ad 4) x len)))) := rfl
theorem wX_eHA : wX G ad σ T o n f x len = wX0 ad ++ ((wHo G (ad 2) (aH ad) o n ++ (wTs G (aH ad) T 5 ++ wA G (ad 1) σ)) ++ (wB G (ad 3) f ++ wTx G (ad 4) x len)) := by
  unfold wX
  simp only [List.append_assoc]
theorem wX_eA : wX G ad σ T o n f x len = (wX0 ad ++ (wHo G (ad 2) (aH ad) o n ++ wTs G (aH ad) T 5)) ++ (wA G (ad 1) σ ++ (wB G (ad 3) f ++ wTx G (ad 4) x len)) := by
  unfold wX
  simp only [List.append_assoc]
theorem wX_eAB : wX G ad σ T o n f x len = (wX0 ad ++ (wHo G (ad 2) (aH ad) o n ++ wTs G (aH ad) T 5)) ++ ((wA G (ad 1) σ ++ wB G (ad 3) f) ++ wTx G (ad 4) x len) := by
  unfold wX
  simp only [List.append_assoc]
theorem wX_eT : wX G ad σ T o n f x len = (wX0 ad ++ (wHo G (ad 2) (aH ad) o n ++ (wTs G (aH ad) T 5 ++ (wA G (ad 1) σ ++ wB G (ad 3) f)))) ++ (wTx G (ad 4) x len ++ []) := by
  unfold wX
  simp only [List.append_assoc, List.append_nil]
theorem wX_eAT : wX G ad σ T o n f x len = (wX0 ad ++ (wHo G (ad 2) (aH ad) o n ++ wTs G (aH ad) T 5)) ++ (wA G (ad 1) σ ++ (wB G (ad 3) f ++ (wTx G (ad 4) x len ++ []))) := by
  unfold wX
  simp only [List.append_assoc, List.append_nil]
variable {H : Heap} {A : Nat → Prop}
theorem wX_pH (h : va_P G.1 vwCl (wX G ad σ T o n f x len) H) : va_P G.1 vwCl (wHo G (ad 2) (aH ad) o n) H := zP_m h
theorem wX_pHA (h : va_P G.1 vwCl (wX G ad σ T o n f x len) H) : va_P G.1 vwCl (wHo G (ad 2) (aH ad) o n ++ (wTs G (aH ad) T 5 ++ wA G (ad 1) σ)) H := by rw [wX_eHA] at h; exact zP_m h
theorem wX_pA (h : va_P G.1 vwCl (wX G ad σ T o n f x len) H) : va_P G.1 vwCl (wA G (ad 1) σ) H := by rw [wX_eA] at h; exact zP_m h
theorem wX_pAB (h : va_P G.1 vwCl (wX G ad σ T o n f x len) H) : va_P G.1 vwCl (wA G (ad 1) σ ++ wB G (ad 3) f) H := by rw [wX_eAB] at h; exact zP_m h
theorem wX_pB (h : va_P G.1 vwCl (wX G ad σ T o n f x len) H) : va_P G.1 vwCl (wB G (ad 3) f) H := zP_r (wX_pAB h)
theorem wX_pT (h : va_P G.1 vwCl (wX G ad σ T o n f x len) H) : va_P G.1 vwCl (wTx G (ad 4) x len) H := by rw [wX_eT] at h; exact zP_m h
theorem wX_pAT (h : va_P G.1 vwCl (wX G ad σ T o n f x len) H) : va_P G.1 vwCl (wA G (ad 1) σ ++ wTx G (ad 4) x len) H := (wX_pA h).app (wX_pT h)
theorem wX_dH (h : va_D A (wX G ad σ T o n f x len)) : va_D A (wHo G (ad 2) (aH ad) o n) := zD_m h
theorem wX_dHA (h : va_D A (wX G ad σ T o n f x len)) : va_D A (wHo G (ad 2) (aH ad) o n ++ (wTs G (aH ad) T 5 ++ wA G (ad 1) σ)) := by rw [wX_eHA] at h; exact zD_m h
theorem wX_dA (h : va_D A (wX G ad σ T o n f x len)) : va_D A (wA G (ad 1) σ) := by rw [wX_eA] at h; exact zD_m h
theorem wX_dAB (h : va_D A (wX G ad σ T o n f x len)) : va_D A (wA G (ad 1) σ ++ wB G (ad 3) f) := by rw [wX_eAB] at h; exact zD_m h
theorem wX_dT (h : va_D A (wX G ad σ T o n f x len)) : va_D A (wTx G (ad 4) x len) := by rw [wX_eT] at h; exact zD_m h
theorem wX_dAT (h : va_D A (wX G ad σ T o n f x len)) : va_D A (wA G (ad 1) σ ++ wTx G (ad 4) x len) := by
  have h1 := wX_dA h
  have h2 := wX_dT h
  rw [wX_eAT] at h
  exact h1.app h2 (fun i j p q hi hj z => zD_ne (zD_r h) (zA_in hi) (zA_app.mpr (Or.inr (zA_app.mpr (Or.inl (by rw [z]; exact zA_in hj))))))
end WX
/-- arguments within -/
theorem z_in {k m : Nat} (h : k < m) (hm : m < 2 ^ 31) : 0 ≤ nI k ∧ nI k < nI m := ⟨nI_pos' (by omega), nI_lt h hm⟩
theorem z_lem {k m : Nat} (h : k ≤ m) (hm : m < 2 ^ 31) : nI 0 ≤ nI k ∧ nI k ≤ nI m := ⟨nI_le (Nat.zero_le k) (by omega), nI_le h hm⟩
theorem z_of {x : Int32} {m : Nat} (hm : m < 2 ^ 31) (h : 0 ≤ x ∧ x < nI m) : ∃ k, k < m ∧ x = nI k := by
  have h0 : ¬ x < 0 := by
    have := h.1
    rw [Int32.le_iff_toInt_le] at this
    rw [Int32.lt_iff_toInt_lt]
    omega
  obtain ⟨k, hk, rfl⟩ := nI_of h0
  exact ⟨k, (nI_ltI hk hm).mp h.2, rfl⟩
theorem z_ofle {x : Int32} {m : Nat} (hm : m < 2 ^ 31) (h : nI 0 ≤ x ∧ x ≤ nI m) : ∃ k, k ≤ m ∧ x = nI k := by
  have h0 : ¬ x < 0 := by
    have := h.1
    rw [Int32.le_iff_toInt_le] at this
    rw [Int32.lt_iff_toInt_lt]
    have e : (nI 0).toInt = (0 : Int32).toInt := by decide
    omega
  obtain ⟨k, hk, rfl⟩ := nI_of h0
  exact ⟨k, (nI_leI hk hm).mp h.2, rfl⟩
/-- the end of a revision: broken agreements dropped, the revision one more -/
def endS (σ : Nat → Nat) (k : Nat) : Nat → Nat := su (drp σ k 4) (114 + 53 * k) (rvn (drp σ k 4) k + 1)
/-- the change is refused -/
def rfsd (σ : Nat → Nat) (k : Nat) : Prop := σ 2 = 1 ∧ 0 < brkN σ k
abbrev nO (o n : Nat) : Nat := if n < 4 then o else (o + 1) % 5
abbrev nN (n : Nat) : Nat := if n < 4 then n + 1 else n
theorem drp_01 {σ : Nat → Nat} {k : Nat} {j : Nat} (hj : j < 4) : ∀ i, drp σ k i j = σ j := by
  intro i
  induction i with
  | zero => rfl
  | succ i ih =>
    rw [drp]
    unfold drS
    split
    · rw [su_ne _ _ (by omega)]; exact ih
    · exact ih
theorem drp_nS (σ : Nat → Nat) (k i : Nat) : nS (drp σ k i) = nS σ := by unfold nS; rw [drp_01 (by omega), drp_01 (by omega)]
theorem Ok.dp {N : Nat} {σ : Nat → Nat} (h : Ok N σ) {k : Nat} (hk : k < nS σ) : ∀ i, i ≤ 4 → Ok N (drp σ k i) := by
  intro i
  induction i with
  | zero => exact fun _ => h
  | succ i ih =>
    intro hi
    have ho := ih (by omega)
    show Ok N (drS (drp σ k i) k i)
    unfold drS
    split
    · rename_i q
      have hE60 : eO (drp σ k i) k i ≠ 60 := fun z => by
        rw [z, agF_60] at q
        exact absurd q.1 (by decide)
      have hEn := (ho.lO (k := k) (by rw [drp_nS]; exact hk) (show i < 4 by omega)).resolve_left hE60
      have := ho.lE
      exact ho.su_ag (by omega) (by omega)
    · exact ho
/-- the published revision as an answer -/
def zc4 (p : Nat) : Int32 := if p = 0 then (-4) else nI (p - 1)
theorem flt_le (x : Nat → Nat) (n : Nat) (h : n ≤ 100) : flt x n ≤ 200 := by
  unfold flt
  have := fst1_le (fun i => decide (stt x (i + 1) = 5)) n
  split
  · omega
  · split <;> omega
theorem z_i2c {c : Nat} (h : c < 65536) : ((nI c).toUInt32 % 65536).toInt32 = nI c := by
  rw [pk_char, pk_tn (by omega), Nat.mod_eq_of_lt h]
set_option maxHeartbeats 4000000 in
set_option maxRecDepth 100000 in
theorem kX4_endRevision_ok (l : Launch) (G : zG) (ad : Nat → Nat → Nat) (σ : Nat → Nat) (T : Nat → Nat → Nat) (o n : Nat) (f : Nat → Int32) (x : Nat → Nat) (len : Nat) {N : Nat} (k : Nat) (v : Nat) (hO : Ok N σ) (ho : o < 5) (hn : n ≤ 4) (hk : k < nS σ) (hrf : ¬ rfsd σ k) (hd : va_D (fun _ => True) (wX G ad σ T o n f x len)) : Met l yX4_endRevision wsX4_endRevision (zRm 5 116) (zPc G [.ref (ad 0 0), .int (nI k), .int (nI v)] (va_P G.1 vwCl (wX G ad σ T o n f x len))) (zQ (zA (wX G ad σ T o n f x len)) (some (.int (nI (v)))) (va_P G.1 vwCl (wX G ad (endS σ k) T (nO o n) (nN n) f x len))) 0 0 (zA (wX G ad σ T o n f x len)) := by
  refine zmkWi (w := (wX G ad σ T o n f x len)) hd (cc := cX4_endRevision) (maxL := 3) (by decide) rfl (Nat.le_of_ble_eq_true rfl) ?_
  intro pr en st mi ar bl me cd ls Q hx hb hml hown hts hG hP hl hD hS hret
  have hown : st.vm.findClass RX4 = some mi.cls := hown
  have hl : lv_has ls 3 [(0, .ref (ad 0 0)), (1, .int (nI k)), (2, .int (nI v))] := hl
  have hP : va_P G.1 vwCl (wX G ad σ T o n f x len) st.heap := hP
  have hD : va_D (zA (wX G ad σ T o n f x len)) (wX G ad σ T o n f x len) := hD
  have hinX4 : ∀ w ∈ wsX40, w ∈ wsX4_endRevision := by decide +kernel
  have hf10 := hts (.fieldLink RX4 10 "MapSheets" "now" "LMapSheets$Atlas;") (by decide +kernel)
  have hf19 := hts (.fieldLink RX4 19 "MapSheets" "history" "LMapSheets$History;") (by decide +kernel)
  have hc := hO.c
  have hs := hO.lS
  have hr := hO.lR
  have hne := hO.lE
  have hsg2 := hO.2.2.1
  refine lv_aload_n hx hb dX4_endRevision_0 rfl (lv_at hl 0 rfl) ?_
  refine va_get (D := G.1) (ci := 4) (v := .ref (ad 1 0)) (C := RX4) (T := TX4) (N := 4) hx hb hts hinX4 hown hG.1 hP 0 rfl rfl 0 (by decide) hf10 (fun _ h9 => h9) rfl dX4_endRevision_1 ?_
  refine zrdV (As := []) ⟨hx, hb, hml, hown, hts⟩ (kX0_guardValue l G (ad 1) σ ) (cwV 0 hts gX4_endRevision_X0_guardValue rfl rfl rfl (by decide +kernel) ⟨Nat.le_of_ble_eq_true rfl, Nat.le_of_ble_eq_true rfl⟩) hG (va_recv (q0 := 0) (ci := 0) hG.1 (wX_pA hP) rfl rfl) ((wX_pA hP)) rfl rfl hl.1 dX4_endRevision_4 (Nat.le_of_ble_eq_true rfl) ⟨Nat.le_of_ble_eq_true rfl, Nat.le_of_ble_eq_true rfl⟩ ?_
  refine lv_iconst (v := nI 1) hx hb dX4_endRevision_7 (by decide) ?_
  refine lv_icmp_ne (tgt := 36) hx hb dX4_endRevision_8 (by decide) (fun h8 => ?_) (fun h8 => ?_)
  · skip
    have h8 : ¬ ((σ 2) = 1) := fun q => h8 ((nI_eq (by omega) (by omega)).mpr q)
    refine lv_aload_n hx hb dX4_endRevision_36 rfl (lv_at hl 0 rfl) ?_
    refine va_get (D := G.1) (ci := 4) (v := .ref (ad 1 0)) (C := RX4) (T := TX4) (N := 4) hx hb hts hinX4 hown hG.1 hP 0 rfl rfl 0 (by decide) hf10 (fun _ h9 => h9) rfl dX4_endRevision_37 ?_
    refine lv_iload_n hx hb dX4_endRevision_40 rfl (lv_at hl 1 rfl) ?_
    refine zwrEv (G := G) (wc' := (wA G (ad 1) (drp σ k 4))) (ws' := (wX G ad (drp σ k 4) T o n f x len)) (va_runV (As := [.int (nI k)]) (rest := []) ⟨hx, hb, hml, hown, hts⟩ (kX0_dropBrokenAgreements l G (ad 1) σ k (hO) (by omega) (zD_any (wX_dA hD))) (cwV 1 hts gX4_endRevision_X0_dropBrokenAgreements rfl rfl rfl (by decide +kernel) ⟨Nat.le_of_ble_eq_true rfl, Nat.le_of_ble_eq_true rfl⟩) (zPreV hG (va_recv (q0 := 0) (ci := 0) hG.1 (wX_pA hP) rfl rfl) ((wX_pA hP))) rfl rfl hl.1 rfl (lv_room (Nat.le_of_ble_eq_true rfl)) dX4_endRevision_41 ⟨Nat.le_of_ble_eq_true rfl, Nat.le_of_ble_eq_true rfl⟩) (wX_eA) (wX_eA) hP hD hS rfl (fun H locs hP hD hS => ?_)
    have hP : va_P G.1 vwCl (wX G ad (drp σ k 4) T o n f x len) H := hP
    have hD : va_D (zA (wX G ad σ T o n f x len)) (wX G ad (drp σ k 4) T o n f x len) := hD
    refine lv_aload_n hx hb dX4_endRevision_44 rfl (lv_at hl 0 rfl) ?_
    refine va_get (D := G.1) (ci := 4) (v := .ref (ad 1 0)) (C := RX4) (T := TX4) (N := 4) hx hb hts hinX4 hown hG.1 hP 0 rfl rfl 0 (by decide) hf10 (fun _ h9 => h9) rfl dX4_endRevision_45 ?_
    refine lv_iload_n hx hb dX4_endRevision_48 rfl (lv_at hl 1 rfl) ?_
    refine zwrEv (G := G) (wc' := (wA G (ad 1) (su (drp σ k 4) (114 + 53 * k) (rvn (drp σ k 4) k + 1)))) (ws' := (wX G ad (su (drp σ k 4) (114 + 53 * k) (rvn (drp σ k 4) k + 1)) T o n f x len)) (va_runV (As := [.int (nI k)]) (rest := []) ⟨hx, hb, hml, hown, hts⟩ (kX0_addRevision l G (ad 1) (drp σ k 4) k (hO.dp hk 4 (Nat.le_refl 4)) (by omega) (zD_any (wX_dA hD))) (cwV 1 hts gX4_endRevision_X0_addRevision rfl rfl rfl (by decide +kernel) ⟨Nat.le_of_ble_eq_true rfl, Nat.le_of_ble_eq_true rfl⟩) (zPreV hG (va_recv (q0 := 0) (ci := 0) hG.1 (wX_pA hP) rfl rfl) ((wX_pA hP))) rfl rfl hl.1 rfl (lv_room (Nat.le_of_ble_eq_true rfl)) dX4_endRevision_49 ⟨Nat.le_of_ble_eq_true rfl, Nat.le_of_ble_eq_true rfl⟩) (wX_eA) (wX_eA) hP hD hS rfl (fun H locs hP hD hS => ?_)
    have hP : va_P G.1 vwCl (wX G ad (su (drp σ k 4) (114 + 53 * k) (rvn (drp σ k 4) k + 1)) T o n f x len) H := hP
    have hD : va_D (zA (wX G ad σ T o n f x len)) (wX G ad (su (drp σ k 4) (114 + 53 * k) (rvn (drp σ k 4) k + 1)) T o n f x len) := hD
    refine lv_aload_n hx hb dX4_endRevision_52 rfl (lv_at hl 0 rfl) ?_
    refine va_get (D := G.1) (ci := 4) (v := .ref (ad 2 0)) (C := RX4) (T := TX4) (N := 4) hx hb hts hinX4 hown hG.1 hP 0 rfl rfl 1 (by decide) hf19 (fun _ h9 => h9) rfl dX4_endRevision_53 ?_
    refine zwrEv (G := G) (wc' := (wHo G (ad 2) (aH ad) (nO o n) (nN n))) (ws' := (wX G ad (su (drp σ k 4) (114 + 53 * k) (rvn (drp σ k 4) k + 1)) T (nO o n) (nN n) f x len)) (va_runV (As := []) (rest := []) ⟨hx, hb, hml, hown, hts⟩ (kX2_keepRecord l G (ad 2) (aH ad) o n (by omega) (by omega) (zD_any (wX_dH hD))) (cwV 0 hts gX4_endRevision_X2_keepRecord rfl rfl rfl (by decide +kernel) ⟨Nat.le_of_ble_eq_true rfl, Nat.le_of_ble_eq_true rfl⟩) (zPreV hG (va_recv (q0 := 0) (ci := 2) hG.1 (wX_pH hP) rfl rfl) (wX_pH hP)) rfl rfl hl.1 rfl (lv_room (Nat.le_of_ble_eq_true rfl)) dX4_endRevision_56 ⟨Nat.le_of_ble_eq_true rfl, Nat.le_of_ble_eq_true rfl⟩) (wX_eH) (wX_eH) hP hD hS rfl (fun H locs hP hD hS => ?_)
    have hP : va_P G.1 vwCl (wX G ad (su (drp σ k 4) (114 + 53 * k) (rvn (drp σ k 4) k + 1)) T (nO o n) (nN n) f x len) H := hP
    have hD : va_D (zA (wX G ad σ T o n f x len)) (wX G ad (su (drp σ k 4) (114 + 53 * k) (rvn (drp σ k 4) k + 1)) T (nO o n) (nN n) f x len) := hD
    refine lv_iload_n hx hb dX4_endRevision_59 rfl (lv_at hl 2 rfl) ?_
    exact hret _ _ _ _ _ dX4_endRevision_60 hS (hP) (congrArg nI (rfl))
  · skip
    have h8 : (σ 2) = 1 := (nI_eq (by omega) (by omega)).mp h8
    refine lv_aload_n hx hb dX4_endRevision_11 rfl (lv_at hl 0 rfl) ?_
    refine va_get (D := G.1) (ci := 4) (v := .ref (ad 1 0)) (C := RX4) (T := TX4) (N := 4) hx hb hts hinX4 hown hG.1 hP 0 rfl rfl 0 (by decide) hf10 (fun _ h9 => h9) rfl dX4_endRevision_12 ?_
    refine lv_iload_n hx hb dX4_endRevision_15 rfl (lv_at hl 1 rfl) ?_
    refine zrdV (As := [.int (nI k)]) ⟨hx, hb, hml, hown, hts⟩ (kX0_breaksAgreement l G (ad 1) σ k (hO) (by omega)) (cwV 1 hts gX4_endRevision_X0_breaksAgreement rfl rfl rfl (by decide +kernel) ⟨Nat.le_of_ble_eq_true rfl, Nat.le_of_ble_eq_true rfl⟩) hG (va_recv (q0 := 0) (ci := 0) hG.1 (wX_pA hP) rfl rfl) ((wX_pA hP)) rfl rfl hl.1 dX4_endRevision_16 (Nat.le_of_ble_eq_true rfl) ⟨Nat.le_of_ble_eq_true rfl, Nat.le_of_ble_eq_true rfl⟩ ?_
    refine lv_if_eq (tgt := 36) hx hb dX4_endRevision_19 (by decide) (fun h19 => ?_) (fun h19 => ?_)
    · skip
      have h19 : ¬ (0 < brkN σ k) := (z_b0).mp h19
      refine lv_aload_n hx hb dX4_endRevision_36 rfl (lv_at hl 0 rfl) ?_
      refine va_get (D := G.1) (ci := 4) (v := .ref (ad 1 0)) (C := RX4) (T := TX4) (N := 4) hx hb hts hinX4 hown hG.1 hP 0 rfl rfl 0 (by decide) hf10 (fun _ h9 => h9) rfl dX4_endRevision_37 ?_
      refine lv_iload_n hx hb dX4_endRevision_40 rfl (lv_at hl 1 rfl) ?_
      refine zwrEv (G := G) (wc' := (wA G (ad 1) (drp σ k 4))) (ws' := (wX G ad (drp σ k 4) T o n f x len)) (va_runV (As := [.int (nI k)]) (rest := []) ⟨hx, hb, hml, hown, hts⟩ (kX0_dropBrokenAgreements l G (ad 1) σ k (hO) (by omega) (zD_any (wX_dA hD))) (cwV 1 hts gX4_endRevision_X0_dropBrokenAgreements rfl rfl rfl (by decide +kernel) ⟨Nat.le_of_ble_eq_true rfl, Nat.le_of_ble_eq_true rfl⟩) (zPreV hG (va_recv (q0 := 0) (ci := 0) hG.1 (wX_pA hP) rfl rfl) ((wX_pA hP))) rfl rfl hl.1 rfl (lv_room (Nat.le_of_ble_eq_true rfl)) dX4_endRevision_41 ⟨Nat.le_of_ble_eq_true rfl, Nat.le_of_ble_eq_true rfl⟩) (wX_eA) (wX_eA) hP hD hS rfl (fun H locs hP hD hS => ?_)
      have hP : va_P G.1 vwCl (wX G ad (drp σ k 4) T o n f x len) H := hP
      have hD : va_D (zA (wX G ad σ T o n f x len)) (wX G ad (drp σ k 4) T o n f x len) := hD
      refine lv_aload_n hx hb dX4_endRevision_44 rfl (lv_at hl 0 rfl) ?_
      refine va_get (D := G.1) (ci := 4) (v := .ref (ad 1 0)) (C := RX4) (T := TX4) (N := 4) hx hb hts hinX4 hown hG.1 hP 0 rfl rfl 0 (by decide) hf10 (fun _ h9 => h9) rfl dX4_endRevision_45 ?_
      refine lv_iload_n hx hb dX4_endRevision_48 rfl (lv_at hl 1 rfl) ?_
      refine zwrEv (G := G) (wc' := (wA G (ad 1) (su (drp σ k 4) (114 + 53 * k) (rvn (drp σ k 4) k + 1)))) (ws' := (wX G ad (su (drp σ k 4) (114 + 53 * k) (rvn (drp σ k 4) k + 1)) T o n f x len)) (va_runV (As := [.int (nI k)]) (rest := []) ⟨hx, hb, hml, hown, hts⟩ (kX0_addRevision l G (ad 1) (drp σ k 4) k (hO.dp hk 4 (Nat.le_refl 4)) (by omega) (zD_any (wX_dA hD))) (cwV 1 hts gX4_endRevision_X0_addRevision rfl rfl rfl (by decide +kernel) ⟨Nat.le_of_ble_eq_true rfl, Nat.le_of_ble_eq_true rfl⟩) (zPreV hG (va_recv (q0 := 0) (ci := 0) hG.1 (wX_pA hP) rfl rfl) ((wX_pA hP))) rfl rfl hl.1 rfl (lv_room (Nat.le_of_ble_eq_true rfl)) dX4_endRevision_49 ⟨Nat.le_of_ble_eq_true rfl, Nat.le_of_ble_eq_true rfl⟩) (wX_eA) (wX_eA) hP hD hS rfl (fun H locs hP hD hS => ?_)
      have hP : va_P G.1 vwCl (wX G ad (su (drp σ k 4) (114 + 53 * k) (rvn (drp σ k 4) k + 1)) T o n f x len) H := hP
      have hD : va_D (zA (wX G ad σ T o n f x len)) (wX G ad (su (drp σ k 4) (114 + 53 * k) (rvn (drp σ k 4) k + 1)) T o n f x len) := hD
      refine lv_aload_n hx hb dX4_endRevision_52 rfl (lv_at hl 0 rfl) ?_
      refine va_get (D := G.1) (ci := 4) (v := .ref (ad 2 0)) (C := RX4) (T := TX4) (N := 4) hx hb hts hinX4 hown hG.1 hP 0 rfl rfl 1 (by decide) hf19 (fun _ h9 => h9) rfl dX4_endRevision_53 ?_
      refine zwrEv (G := G) (wc' := (wHo G (ad 2) (aH ad) (nO o n) (nN n))) (ws' := (wX G ad (su (drp σ k 4) (114 + 53 * k) (rvn (drp σ k 4) k + 1)) T (nO o n) (nN n) f x len)) (va_runV (As := []) (rest := []) ⟨hx, hb, hml, hown, hts⟩ (kX2_keepRecord l G (ad 2) (aH ad) o n (by omega) (by omega) (zD_any (wX_dH hD))) (cwV 0 hts gX4_endRevision_X2_keepRecord rfl rfl rfl (by decide +kernel) ⟨Nat.le_of_ble_eq_true rfl, Nat.le_of_ble_eq_true rfl⟩) (zPreV hG (va_recv (q0 := 0) (ci := 2) hG.1 (wX_pH hP) rfl rfl) (wX_pH hP)) rfl rfl hl.1 rfl (lv_room (Nat.le_of_ble_eq_true rfl)) dX4_endRevision_56 ⟨Nat.le_of_ble_eq_true rfl, Nat.le_of_ble_eq_true rfl⟩) (wX_eH) (wX_eH) hP hD hS rfl (fun H locs hP hD hS => ?_)
      have hP : va_P G.1 vwCl (wX G ad (su (drp σ k 4) (114 + 53 * k) (rvn (drp σ k 4) k + 1)) T (nO o n) (nN n) f x len) H := hP
      have hD : va_D (zA (wX G ad σ T o n f x len)) (wX G ad (su (drp σ k 4) (114 + 53 * k) (rvn (drp σ k 4) k + 1)) T (nO o n) (nN n) f x len) := hD
      refine lv_iload_n hx hb dX4_endRevision_59 rfl (lv_at hl 2 rfl) ?_
      exact hret _ _ _ _ _ dX4_endRevision_60 hS (hP) (congrArg nI (rfl))
    · skip
      have h19 : ¬ (¬ (0 < brkN σ k)) := fun q => h19 ((z_b0).mpr q)
      have h19 : 0 < brkN σ k := Decidable.of_not_not h19
      exact absurd ⟨h8, h19⟩ hrf
set_option maxHeartbeats 4000000 in
set_option maxRecDepth 100000 in
theorem kX4_endRevision_no (l : Launch) (G : zG) (ad : Nat → Nat → Nat) (σ : Nat → Nat) (T : Nat → Nat → Nat) (o n : Nat) (f : Nat → Int32) (x : Nat → Nat) (len : Nat) {N : Nat} (k : Nat) (v : Nat) (hO : Ok N σ) (ho : o < 5) (hn : n ≤ 4) (hk : k < nS σ) (hrf : rfsd σ k) (hd : va_D (fun _ => True) (wX G ad σ T o n f x len)) : Met l yX4_endRevision wsX4_endRevision (zRm 5 116) (zPc G [.ref (ad 0 0), .int (nI k), .int (nI v)] (va_P G.1 vwCl (wX G ad σ T o n f x len))) (zQ (zA (wX G ad σ T o n f x len)) (some (.int ((-2)))) (va_P G.1 vwCl (wX G ad (T ((o + n) % 5)) T o n f x len))) 0 0 (zA (wX G ad σ T o n f x len)) := by
  refine zmkWi (w := (wX G ad σ T o n f x len)) hd (cc := cX4_endRevision) (maxL := 3) (by decide) rfl (Nat.le_of_ble_eq_true rfl) ?_
  intro pr en st mi ar bl me cd ls Q hx hb hml hown hts hG hP hl hD hS hret
  have hown : st.vm.findClass RX4 = some mi.cls := hown
  have hl : lv_has ls 3 [(0, .ref (ad 0 0)), (1, .int (nI k)), (2, .int (nI v))] := hl
  have hP : va_P G.1 vwCl (wX G ad σ T o n f x len) st.heap := hP
  have hD : va_D (zA (wX G ad σ T o n f x len)) (wX G ad σ T o n f x len) := hD
  have hinX4 : ∀ w ∈ wsX40, w ∈ wsX4_endRevision := by decide +kernel
  have hf10 := hts (.fieldLink RX4 10 "MapSheets" "now" "LMapSheets$Atlas;") (by decide +kernel)
  have hf19 := hts (.fieldLink RX4 19 "MapSheets" "history" "LMapSheets$History;") (by decide +kernel)
  have hc := hO.c
  have hs := hO.lS
  have hr := hO.lR
  have hne := hO.lE
  have hsg2 := hO.2.2.1
  refine lv_aload_n hx hb dX4_endRevision_0 rfl (lv_at hl 0 rfl) ?_
  refine va_get (D := G.1) (ci := 4) (v := .ref (ad 1 0)) (C := RX4) (T := TX4) (N := 4) hx hb hts hinX4 hown hG.1 hP 0 rfl rfl 0 (by decide) hf10 (fun _ h9 => h9) rfl dX4_endRevision_1 ?_
  refine zrdV (As := []) ⟨hx, hb, hml, hown, hts⟩ (kX0_guardValue l G (ad 1) σ ) (cwV 0 hts gX4_endRevision_X0_guardValue rfl rfl rfl (by decide +kernel) ⟨Nat.le_of_ble_eq_true rfl, Nat.le_of_ble_eq_true rfl⟩) hG (va_recv (q0 := 0) (ci := 0) hG.1 (wX_pA hP) rfl rfl) ((wX_pA hP)) rfl rfl hl.1 dX4_endRevision_4 (Nat.le_of_ble_eq_true rfl) ⟨Nat.le_of_ble_eq_true rfl, Nat.le_of_ble_eq_true rfl⟩ ?_
  refine lv_iconst (v := nI 1) hx hb dX4_endRevision_7 (by decide) ?_
  refine lv_icmp_ne (tgt := 36) hx hb dX4_endRevision_8 (by decide) (fun h8 => ?_) (fun h8 => ?_)
  · skip
    have h8 : ¬ ((σ 2) = 1) := fun q => h8 ((nI_eq (by omega) (by omega)).mpr q)
    exact absurd hrf.1 h8
  · skip
    have h8 : (σ 2) = 1 := (nI_eq (by omega) (by omega)).mp h8
    refine lv_aload_n hx hb dX4_endRevision_11 rfl (lv_at hl 0 rfl) ?_
    refine va_get (D := G.1) (ci := 4) (v := .ref (ad 1 0)) (C := RX4) (T := TX4) (N := 4) hx hb hts hinX4 hown hG.1 hP 0 rfl rfl 0 (by decide) hf10 (fun _ h9 => h9) rfl dX4_endRevision_12 ?_
    refine lv_iload_n hx hb dX4_endRevision_15 rfl (lv_at hl 1 rfl) ?_
    refine zrdV (As := [.int (nI k)]) ⟨hx, hb, hml, hown, hts⟩ (kX0_breaksAgreement l G (ad 1) σ k (hO) (by omega)) (cwV 1 hts gX4_endRevision_X0_breaksAgreement rfl rfl rfl (by decide +kernel) ⟨Nat.le_of_ble_eq_true rfl, Nat.le_of_ble_eq_true rfl⟩) hG (va_recv (q0 := 0) (ci := 0) hG.1 (wX_pA hP) rfl rfl) ((wX_pA hP)) rfl rfl hl.1 dX4_endRevision_16 (Nat.le_of_ble_eq_true rfl) ⟨Nat.le_of_ble_eq_true rfl, Nat.le_of_ble_eq_true rfl⟩ ?_
    refine lv_if_eq (tgt := 36) hx hb dX4_endRevision_19 (by decide) (fun h19 => ?_) (fun h19 => ?_)
    · skip
      have h19 : ¬ (0 < brkN σ k) := (z_b0).mp h19
      exact absurd hrf.2 h19
    · skip
      have h19 : ¬ (¬ (0 < brkN σ k)) := fun q => h19 ((z_b0).mpr q)
      have h19 : 0 < brkN σ k := Decidable.of_not_not h19
      refine lv_aload_n hx hb dX4_endRevision_22 rfl (lv_at hl 0 rfl) ?_
      refine va_get (D := G.1) (ci := 4) (v := .ref (ad 2 0)) (C := RX4) (T := TX4) (N := 4) hx hb hts hinX4 hown hG.1 hP 0 rfl rfl 1 (by decide) hf19 (fun _ h9 => h9) rfl dX4_endRevision_23 ?_
      refine lv_aload_n hx hb dX4_endRevision_26 rfl (lv_at hl 0 rfl) ?_
      refine va_get (D := G.1) (ci := 4) (v := .ref (ad 1 0)) (C := RX4) (T := TX4) (N := 4) hx hb hts hinX4 hown hG.1 hP 0 rfl rfl 0 (by decide) hf10 (fun _ h9 => h9) rfl dX4_endRevision_27 ?_
      refine zwrEv (G := G) (wc' := (wHo G (ad 2) (aH ad) o n ++ (wTs G (aH ad) T 5 ++ wA G (ad 1) (T ((o + n) % 5))))) (ws' := (wX G ad (T ((o + n) % 5)) T o n f x len)) (va_runV (As := [.ref (ad 1 0)]) (rest := []) ⟨hx, hb, hml, hown, hts⟩ (kX2_returnToRecord l G (ad 2) (aH ad) o n T (ad 1) σ (by omega) (by omega) (zD_any (wX_dHA hD))) (cwV 1 hts gX4_endRevision_X2_returnToRecord rfl rfl rfl (by decide +kernel) ⟨Nat.le_of_ble_eq_true rfl, Nat.le_of_ble_eq_true rfl⟩) (zPreV hG (va_recv (q0 := 0) (ci := 2) hG.1 (wX_pH hP) rfl rfl) (wX_pHA hP)) rfl rfl hl.1 rfl (lv_room (Nat.le_of_ble_eq_true rfl)) dX4_endRevision_30 ⟨Nat.le_of_ble_eq_true rfl, Nat.le_of_ble_eq_true rfl⟩) (wX_eHA) (wX_eHA) hP hD hS (wHA_map _ _ _ _ _ _ _ _ _ _ _ _) (fun H locs hP hD hS => ?_)
      have hP : va_P G.1 vwCl (wX G ad (T ((o + n) % 5)) T o n f x len) H := hP
      have hD : va_D (zA (wX G ad σ T o n f x len)) (wX G ad (T ((o + n) % 5)) T o n f x len) := hD
      refine lv_bipush (v := (-2)) hx hb dX4_endRevision_33 (by decide) ?_
      exact hret _ _ _ _ _ dX4_endRevision_35 hS (hP) (rfl)
