/-! the reference's cells: m 0 the object, m 1 the places now, m 2 four earlier ones, m 3 the ones held aside, m 4 the text, m 5 the blocks -/
def sF (σ : Nat → Nat) (i : Nat) : Int32 := if 64 ≤ i ∧ (i - 64) % 53 = 51 then zc4 (σ i) else nI (σ i)
def wF (V : Nat → Nat → Nat) (j : Nat) : Int32 := sF (V (j / 1972)) (j % 1972)
def wM (G : zG) (m : Nat → Nat) (σ : Nat → Nat) (V : Nat → Nat → Nat) (ζ : Nat → Nat) (n : Nat) (x : Nat → Nat) (len : Nat) (B : Nat → Int32) : va_W :=
  [(m 0, .inr (5, [.ref (m 1), .ref (m 2), .ref (m 3), .int (nI n), .ref (m 4), .int (nI len), .ref (m 5)])),
   (m 1, .inl (G.2.1, 1972, .inl (sF σ))), (m 2, .inl (G.2.1, 7888, .inl (wF V))), (m 3, .inl (G.2.1, 1972, .inl (sF ζ))),
   (m 4, .inl (G.2.1, 100, .inl (fun i => nI (x i)))), (m 5, .inl (G.2.1, 36, .inl B))]
theorem wM_map (G : zG) (m : Nat → Nat) (σ σ' : Nat → Nat) (V V' : Nat → Nat → Nat) (ζ ζ' : Nat → Nat) (n n' : Nat) (x x' : Nat → Nat) (len len' : Nat) (B B' : Nat → Int32) : (wM G m σ' V' ζ' n' x' len' B').map (·.1) = (wM G m σ V ζ n x len B).map (·.1) := rfl
theorem sF_n {σ : Nat → Nat} {i : Nat} (h : ¬ (64 ≤ i ∧ (i - 64) % 53 = 51)) : sF σ i = nI (σ i) := if_neg h
theorem sF_p (σ : Nat → Nat) (k : Nat) : sF σ (64 + 53 * k + 51) = zc4 (pbn σ k) := by
  unfold sF
  rw [if_pos (by omega)]
  show zc4 (σ (64 + 53 * k + 51)) = zc4 (σ (115 + 53 * k))
  rw [show 64 + 53 * k + 51 = 115 + 53 * k by omega]
theorem sF_su {σ : Nat → Nat} {i v : Nat} (h : ¬ (64 ≤ i ∧ (i - 64) % 53 = 51)) : upd (sF σ) i (nI v) = sF (su σ i v) := by
  funext j
  unfold upd sF su
  by_cases q : j = i
  · subst q
    rw [if_pos rfl, if_neg h, if_pos rfl]
  · rw [if_neg q, if_neg q]
theorem sF_sup {σ : Nat → Nat} {k v : Nat} : upd (sF σ) (64 + 53 * k + 51) (nI v) = sF (su σ (115 + 53 * k) (v + 1)) := by
  funext j
  rw [show 64 + 53 * k + 51 = 115 + 53 * k by omega]
  unfold upd sF su
  by_cases q : j = 115 + 53 * k
  · subst q
    rw [if_pos rfl, if_pos (by omega), if_pos rfl]
    unfold zc4
    rw [if_neg (by omega)]
    rfl
  · rw [if_neg q, if_neg q]
set_option maxHeartbeats 4000000 in
set_option maxRecDepth 100000 in
theorem kX5_in (l : Launch) (G : zG)  (x : Int32) (lo : Int32) (hi : Int32)  : Met l yX5_in wsX5_in (zRm 0 0) (zPc G [.int x, .int lo, .int hi] (fun _ => True)) (zS (.int (if lo ≤ x ∧ x ≤ hi then 1 else 0))) 0 0 (fun _ => False) := by
  refine zmkZ (cc := cX5_in) (maxL := 3) (by decide) rfl (Nat.le_of_ble_eq_true rfl) ?_
  intro pr en st mi ar bl me cd ls Q hx hb hml hown hts hG hP hl hret
  have hown : st.vm.findClass RX5 = some mi.cls := hown
  have hl : lv_has ls 3 [(0, .int x), (1, .int lo), (2, .int hi)] := hl
  refine lv_iload_n hx hb dX5_in_0 rfl (lv_at hl 0 rfl) ?_
  refine lv_iload_n hx hb dX5_in_1 rfl (lv_at hl 1 rfl) ?_
  refine lv_icmp_lt (tgt := 14) hx hb dX5_in_2 (by decide) (fun h2 => ?_) (fun h2 => ?_)
  · skip
    refine lv_iconst (v := nI 0) hx hb dX5_in_14 (by decide) ?_
    exact hret _ _ _ dX5_in_15 (z_f (by simp only [Int32.le_iff_toInt_le, Int32.lt_iff_toInt_lt] at h2 ⊢; omega))
  · skip
    refine lv_iload_n hx hb dX5_in_5 rfl (lv_at hl 0 rfl) ?_
    refine lv_iload_n hx hb dX5_in_6 rfl (lv_at hl 2 rfl) ?_
    refine lv_icmp_gt (tgt := 14) hx hb dX5_in_7 (by decide) (fun h7 => ?_) (fun h7 => ?_)
    · skip
      refine lv_iconst (v := nI 0) hx hb dX5_in_14 (by decide) ?_
      exact hret _ _ _ dX5_in_15 (z_f (by simp only [Int32.le_iff_toInt_le, Int32.lt_iff_toInt_lt] at h2 h7 ⊢; omega))
    · skip
      refine lv_iconst (v := nI 1) hx hb dX5_in_10 (by decide) ?_
      refine lv_goto (tgt := 15) hx hb dX5_in_11 (by decide) ?_
      exact hret _ _ _ dX5_in_15 (z_t (by simp only [Int32.le_iff_toInt_le, Int32.lt_iff_toInt_lt] at h2 h7 ⊢; omega))
set_option maxHeartbeats 4000000 in
set_option maxRecDepth 100000 in
theorem kX5_sheets (l : Launch) (G : zG) (m : Nat → Nat) (σ : Nat → Nat) (V : Nat → Nat → Nat) (ζ : Nat → Nat) (ns : Nat) (x : Nat → Nat) (len : Nat) (B : Nat → Int32)   : Met l yX5_sheets wsX5_sheets (zRm 0 0) (zPc G [.ref (m 0)] (va_P G.1 vwCl (wM G m σ V ζ ns x len B))) (zS (.int (nI (nS σ)))) 0 0 (fun _ => False) := by
  refine zmkI (cc := cX5_sheets) (maxL := 1) (by decide) rfl (Nat.le_of_ble_eq_true rfl) ?_
  intro pr en st mi ar bl me cd ls Q hx hb hml hown hts hG hP hl hret
  have hown : st.vm.findClass RX5 = some mi.cls := hown
  have hl : lv_has ls 1 [(0, .ref (m 0))] := hl
  have hP : va_P G.1 vwCl (wM G m σ V ζ ns x len B) st.heap := hP
  have hinX5 : ∀ w ∈ wsX50, w ∈ wsX5_sheets := by decide +kernel
  have hf7 := hts (.fieldLink RX5 7 "MapSheetsModel" "s" "[I") (by decide +kernel)
  refine lv_aload_n hx hb dX5_sheets_0 rfl (lv_at hl 0 rfl) ?_
  refine va_get (D := G.1) (ci := 5) (v := .ref (m 1)) (C := RX5) (T := TX5) (N := 7) hx hb hts hinX5 hown hG.1 hP 0 rfl rfl 0 (by decide) hf7 (fun _ h9 => h9) rfl dX5_sheets_1 ?_
  refine lv_iconst (v := nI 0) hx hb dX5_sheets_4 (by decide) ?_
  refine va_iald hx hb hG.1 hP 1 0 rfl rfl (vp_in_nI (n := 0) (N := 1972) (by omega) (by omega)) dX5_sheets_5 ?_
  refine lv_topi (nm_r (e' := nI (σ 0)) (by rw [nI_clamp (by omega)]; exact sF_n (by omega)) ?_)
  refine lv_aload_n hx hb dX5_sheets_6 rfl (lv_at hl 0 rfl) ?_
  refine va_get (D := G.1) (ci := 5) (v := .ref (m 1)) (C := RX5) (T := TX5) (N := 7) hx hb hts hinX5 hown hG.1 hP 0 rfl rfl 0 (by decide) hf7 (fun _ h9 => h9) rfl dX5_sheets_7 ?_
  refine lv_iconst (v := nI 1) hx hb dX5_sheets_10 (by decide) ?_
  refine va_iald hx hb hG.1 hP 1 0 rfl rfl (vp_in_nI (n := 1) (N := 1972) (by omega) (by omega)) dX5_sheets_11 ?_
  refine lv_topi (nm_r (e' := nI (σ 1)) (by rw [nI_clamp (by omega)]; exact sF_n (by omega)) ?_)
  refine lv_imul hx hb dX5_sheets_12 ?_
  refine lv_topi (nm_r (e' := nI ((σ 0) * (σ 1))) (pk_mul _ _) ?_)
  exact hret _ _ _ dX5_sheets_13 (congrArg nI (rfl))
set_option maxHeartbeats 4000000 in
set_option maxRecDepth 100000 in
theorem kX5_isSheet (l : Launch) (G : zG) (m : Nat → Nat) (σ : Nat → Nat) (V : Nat → Nat → Nat) (ζ : Nat → Nat) (ns : Nat) (x : Nat → Nat) (len : Nat) (B : Nat → Int32) (u : Int32)  : Met l yX5_isSheet wsX5_isSheet (zRm 1 20) (zPc G [.ref (m 0), .int u] (va_P G.1 vwCl (wM G m σ V ζ ns x len B))) (zS (.int (if 0 ≤ u ∧ u < nI (nS σ) then 1 else 0))) 0 0 (fun _ => False) := by
  refine zmkZ (cc := cX5_isSheet) (maxL := 2) (by decide) rfl (Nat.le_of_ble_eq_true rfl) ?_
  intro pr en st mi ar bl me cd ls Q hx hb hml hown hts hG hP hl hret
  have hown : st.vm.findClass RX5 = some mi.cls := hown
  have hl : lv_has ls 2 [(0, .ref (m 0)), (1, .int u)] := hl
  have hP : va_P G.1 vwCl (wM G m σ V ζ ns x len B) st.heap := hP
  refine lv_iload_n hx hb dX5_isSheet_0 rfl (lv_at hl 1 rfl) ?_
  refine lv_if_lt (tgt := 16) hx hb dX5_isSheet_1 (by decide) (fun h1 => ?_) (fun h1 => ?_)
  · skip
    refine lv_iconst (v := nI 0) hx hb dX5_isSheet_16 (by decide) ?_
    exact hret _ _ _ dX5_isSheet_17 (z_f (by simp only [Int32.le_iff_toInt_le, Int32.lt_iff_toInt_lt] at h1 ⊢; omega))
  · skip
    refine lv_iload_n hx hb dX5_isSheet_4 rfl (lv_at hl 1 rfl) ?_
    refine lv_aload_n hx hb dX5_isSheet_5 rfl (lv_at hl 0 rfl) ?_
    refine zrdV (As := []) ⟨hx, hb, hml, hown, hts⟩ (kX5_sheets l G m σ V ζ ns x len B ) (cwV 0 hts gX5_isSheet_X5_sheets rfl rfl rfl (by decide +kernel) ⟨Nat.le_of_ble_eq_true rfl, Nat.le_of_ble_eq_true rfl⟩) hG (va_recv (q0 := 0) (ci := 5) hG.1 hP rfl rfl) (hP) rfl rfl hl.1 dX5_isSheet_6 (Nat.le_of_ble_eq_true rfl) ⟨Nat.le_of_ble_eq_true rfl, Nat.le_of_ble_eq_true rfl⟩ ?_
    refine lv_icmp_ge (tgt := 16) hx hb dX5_isSheet_9 (by decide) (fun h9 => ?_) (fun h9 => ?_)
    · skip
      refine lv_iconst (v := nI 0) hx hb dX5_isSheet_16 (by decide) ?_
      exact hret _ _ _ dX5_isSheet_17 (z_f (by simp only [Int32.le_iff_toInt_le, Int32.lt_iff_toInt_lt] at h1 h9 ⊢; omega))
    · skip
      refine lv_iconst (v := nI 1) hx hb dX5_isSheet_12 (by decide) ?_
      refine lv_goto (tgt := 17) hx hb dX5_isSheet_13 (by decide) ?_
      exact hret _ _ _ dX5_isSheet_17 (z_t (by simp only [Int32.le_iff_toInt_le, Int32.lt_iff_toInt_lt] at h1 h9 ⊢; omega))
set_option maxHeartbeats 4000000 in
set_option maxRecDepth 100000 in
theorem kX5_rowEdges (l : Launch) (G : zG) (m : Nat → Nat) (σ : Nat → Nat) (V : Nat → Nat → Nat) (ζ : Nat → Nat) (ns : Nat) (x : Nat → Nat) (len : Nat) (B : Nat → Int32) {N : Nat}  (hO : Ok N σ) : Met l yX5_rowEdges wsX5_rowEdges (zRm 0 0) (zPc G [.ref (m 0)] (va_P G.1 vwCl (wM G m σ V ζ ns x len B))) (zS (.int (nI (rE σ)))) 0 0 (fun _ => False) := by
  refine zmkI (cc := cX5_rowEdges) (maxL := 1) (by decide) rfl (Nat.le_of_ble_eq_true rfl) ?_
  intro pr en st mi ar bl me cd ls Q hx hb hml hown hts hG hP hl hret
  have hown : st.vm.findClass RX5 = some mi.cls := hown
  have hl : lv_has ls 1 [(0, .ref (m 0))] := hl
  have hP : va_P G.1 vwCl (wM G m σ V ζ ns x len B) st.heap := hP
  have hinX5 : ∀ w ∈ wsX50, w ∈ wsX5_rowEdges := by decide +kernel
  have hf7 := hts (.fieldLink RX5 7 "MapSheetsModel" "s" "[I") (by decide +kernel)
  have hc := hO.c
  have hs := hO.lS
  have hr := hO.lR
  have hne := hO.lE
  refine lv_aload_n hx hb dX5_rowEdges_0 rfl (lv_at hl 0 rfl) ?_
  refine va_get (D := G.1) (ci := 5) (v := .ref (m 1)) (C := RX5) (T := TX5) (N := 7) hx hb hts hinX5 hown hG.1 hP 0 rfl rfl 0 (by decide) hf7 (fun _ h9 => h9) rfl dX5_rowEdges_1 ?_
  refine lv_iconst (v := nI 0) hx hb dX5_rowEdges_4 (by decide) ?_
  refine va_iald hx hb hG.1 hP 1 0 rfl rfl (vp_in_nI (n := 0) (N := 1972) (by omega) (by omega)) dX5_rowEdges_5 ?_
  refine lv_topi (nm_r (e' := nI (σ 0)) (by rw [nI_clamp (by omega)]; exact sF_n (by omega)) ?_)
  refine lv_iconst (v := nI 1) hx hb dX5_rowEdges_6 (by decide) ?_
  refine lv_isub hx hb dX5_rowEdges_7 ?_
  refine lv_topi (nm_r (e' := nI ((σ 0) - 1)) (pk_sub (by omega)) ?_)
  refine lv_aload_n hx hb dX5_rowEdges_8 rfl (lv_at hl 0 rfl) ?_
  refine va_get (D := G.1) (ci := 5) (v := .ref (m 1)) (C := RX5) (T := TX5) (N := 7) hx hb hts hinX5 hown hG.1 hP 0 rfl rfl 0 (by decide) hf7 (fun _ h9 => h9) rfl dX5_rowEdges_9 ?_
  refine lv_iconst (v := nI 1) hx hb dX5_rowEdges_12 (by decide) ?_
  refine va_iald hx hb hG.1 hP 1 0 rfl rfl (vp_in_nI (n := 1) (N := 1972) (by omega) (by omega)) dX5_rowEdges_13 ?_
  refine lv_topi (nm_r (e' := nI (σ 1)) (by rw [nI_clamp (by omega)]; exact sF_n (by omega)) ?_)
  refine lv_imul hx hb dX5_rowEdges_14 ?_
  refine lv_topi (nm_r (e' := nI (((σ 0) - 1) * (σ 1))) (pk_mul _ _) ?_)
  exact hret _ _ _ dX5_rowEdges_15 (congrArg nI (rfl))
set_option maxHeartbeats 4000000 in
set_option maxRecDepth 100000 in
theorem kX5_edges (l : Launch) (G : zG) (m : Nat → Nat) (σ : Nat → Nat) (V : Nat → Nat → Nat) (ζ : Nat → Nat) (ns : Nat) (x : Nat → Nat) (len : Nat) (B : Nat → Int32) {N : Nat}  (hO : Ok N σ) : Met l yX5_edges wsX5_edges (zRm 1 20) (zPc G [.ref (m 0)] (va_P G.1 vwCl (wM G m σ V ζ ns x len B))) (zS (.int (nI (nE σ)))) 0 0 (fun _ => False) := by
  refine zmkI (cc := cX5_edges) (maxL := 1) (by decide) rfl (Nat.le_of_ble_eq_true rfl) ?_
  intro pr en st mi ar bl me cd ls Q hx hb hml hown hts hG hP hl hret
  have hown : st.vm.findClass RX5 = some mi.cls := hown
  have hl : lv_has ls 1 [(0, .ref (m 0))] := hl
  have hP : va_P G.1 vwCl (wM G m σ V ζ ns x len B) st.heap := hP
  have hinX5 : ∀ w ∈ wsX50, w ∈ wsX5_edges := by decide +kernel
  have hf7 := hts (.fieldLink RX5 7 "MapSheetsModel" "s" "[I") (by decide +kernel)
  have hc := hO.c
  have hs := hO.lS
  have hr := hO.lR
  have hne := hO.lE
  refine lv_aload_n hx hb dX5_edges_0 rfl (lv_at hl 0 rfl) ?_
  refine zrdV (As := []) ⟨hx, hb, hml, hown, hts⟩ (kX5_rowEdges l G m σ V ζ ns x len B (hO)) (cwV 0 hts gX5_edges_X5_rowEdges rfl rfl rfl (by decide +kernel) ⟨Nat.le_of_ble_eq_true rfl, Nat.le_of_ble_eq_true rfl⟩) hG (va_recv (q0 := 0) (ci := 5) hG.1 hP rfl rfl) (hP) rfl rfl hl.1 dX5_edges_1 (Nat.le_of_ble_eq_true rfl) ⟨Nat.le_of_ble_eq_true rfl, Nat.le_of_ble_eq_true rfl⟩ ?_
  refine lv_aload_n hx hb dX5_edges_4 rfl (lv_at hl 0 rfl) ?_
  refine va_get (D := G.1) (ci := 5) (v := .ref (m 1)) (C := RX5) (T := TX5) (N := 7) hx hb hts hinX5 hown hG.1 hP 0 rfl rfl 0 (by decide) hf7 (fun _ h9 => h9) rfl dX5_edges_5 ?_
  refine lv_iconst (v := nI 0) hx hb dX5_edges_8 (by decide) ?_
  refine va_iald hx hb hG.1 hP 1 0 rfl rfl (vp_in_nI (n := 0) (N := 1972) (by omega) (by omega)) dX5_edges_9 ?_
  refine lv_topi (nm_r (e' := nI (σ 0)) (by rw [nI_clamp (by omega)]; exact sF_n (by omega)) ?_)
  refine lv_aload_n hx hb dX5_edges_10 rfl (lv_at hl 0 rfl) ?_
  refine va_get (D := G.1) (ci := 5) (v := .ref (m 1)) (C := RX5) (T := TX5) (N := 7) hx hb hts hinX5 hown hG.1 hP 0 rfl rfl 0 (by decide) hf7 (fun _ h9 => h9) rfl dX5_edges_11 ?_
  refine lv_iconst (v := nI 1) hx hb dX5_edges_14 (by decide) ?_
  refine va_iald hx hb hG.1 hP 1 0 rfl rfl (vp_in_nI (n := 1) (N := 1972) (by omega) (by omega)) dX5_edges_15 ?_
  refine lv_topi (nm_r (e' := nI (σ 1)) (by rw [nI_clamp (by omega)]; exact sF_n (by omega)) ?_)
  refine lv_iconst (v := nI 1) hx hb dX5_edges_16 (by decide) ?_
  refine lv_isub hx hb dX5_edges_17 ?_
  refine lv_topi (nm_r (e' := nI ((σ 1) - 1)) (pk_sub (by omega)) ?_)
  refine lv_imul hx hb dX5_edges_18 ?_
  refine lv_topi (nm_r (e' := nI ((σ 0) * ((σ 1) - 1))) (pk_mul _ _) ?_)
  refine lv_iadd hx hb dX5_edges_19 ?_
  refine lv_topi (nm_r (e' := nI ((rE σ) + ((σ 0) * ((σ 1) - 1)))) (nI_add _ _) ?_)
  exact hret _ _ _ dX5_edges_20 (congrArg nI (rfl))
set_option maxHeartbeats 4000000 in
set_option maxRecDepth 100000 in
theorem kX5_isEdge (l : Launch) (G : zG) (m : Nat → Nat) (σ : Nat → Nat) (V : Nat → Nat → Nat) (ζ : Nat → Nat) (ns : Nat) (x : Nat → Nat) (len : Nat) (B : Nat → Int32) {N : Nat} (u : Int32) (hO : Ok N σ) : Met l yX5_isEdge wsX5_isEdge (zRm 2 40) (zPc G [.ref (m 0), .int u] (va_P G.1 vwCl (wM G m σ V ζ ns x len B))) (zS (.int (if 0 ≤ u ∧ u < nI (nE σ) then 1 else 0))) 0 0 (fun _ => False) := by
  refine zmkZ (cc := cX5_isEdge) (maxL := 2) (by decide) rfl (Nat.le_of_ble_eq_true rfl) ?_
  intro pr en st mi ar bl me cd ls Q hx hb hml hown hts hG hP hl hret
  have hown : st.vm.findClass RX5 = some mi.cls := hown
  have hl : lv_has ls 2 [(0, .ref (m 0)), (1, .int u)] := hl
  have hP : va_P G.1 vwCl (wM G m σ V ζ ns x len B) st.heap := hP
  have hc := hO.c
  have hs := hO.lS
  have hr := hO.lR
  have hne := hO.lE
  refine lv_iload_n hx hb dX5_isEdge_0 rfl (lv_at hl 1 rfl) ?_
  refine lv_if_lt (tgt := 16) hx hb dX5_isEdge_1 (by decide) (fun h1 => ?_) (fun h1 => ?_)
  · skip
    refine lv_iconst (v := nI 0) hx hb dX5_isEdge_16 (by decide) ?_
    exact hret _ _ _ dX5_isEdge_17 (z_f (by simp only [Int32.le_iff_toInt_le, Int32.lt_iff_toInt_lt] at h1 ⊢; omega))
  · skip
    refine lv_iload_n hx hb dX5_isEdge_4 rfl (lv_at hl 1 rfl) ?_
    refine lv_aload_n hx hb dX5_isEdge_5 rfl (lv_at hl 0 rfl) ?_
    refine zrdV (As := []) ⟨hx, hb, hml, hown, hts⟩ (kX5_edges l G m σ V ζ ns x len B (hO)) (cwV 0 hts gX5_isEdge_X5_edges rfl rfl rfl (by decide +kernel) ⟨Nat.le_of_ble_eq_true rfl, Nat.le_of_ble_eq_true rfl⟩) hG (va_recv (q0 := 0) (ci := 5) hG.1 hP rfl rfl) (hP) rfl rfl hl.1 dX5_isEdge_6 (Nat.le_of_ble_eq_true rfl) ⟨Nat.le_of_ble_eq_true rfl, Nat.le_of_ble_eq_true rfl⟩ ?_
    refine lv_icmp_ge (tgt := 16) hx hb dX5_isEdge_9 (by decide) (fun h9 => ?_) (fun h9 => ?_)
    · skip
      refine lv_iconst (v := nI 0) hx hb dX5_isEdge_16 (by decide) ?_
      exact hret _ _ _ dX5_isEdge_17 (z_f (by simp only [Int32.le_iff_toInt_le, Int32.lt_iff_toInt_lt] at h1 h9 ⊢; omega))
    · skip
      refine lv_iconst (v := nI 1) hx hb dX5_isEdge_12 (by decide) ?_
      refine lv_goto (tgt := 17) hx hb dX5_isEdge_13 (by decide) ?_
      exact hret _ _ _ dX5_isEdge_17 (z_t (by simp only [Int32.le_iff_toInt_le, Int32.lt_iff_toInt_lt] at h1 h9 ⊢; omega))
set_option maxHeartbeats 4000000 in
set_option maxRecDepth 100000 in
theorem kX5_of (l : Launch) (G : zG) (m : Nat → Nat) (σ : Nat → Nat) (V : Nat → Nat → Nat) (ζ : Nat → Nat) (ns : Nat) (x : Nat → Nat) (len : Nat) (B : Nat → Int32) (k : Nat) (w : Nat) (hk : k < 36) (hw : w < 53) (hw2 : w ≠ 51) : Met l yX5_of wsX5_of (zRm 0 0) (zPc G [.ref (m 0), .int (nI k), .int (nI w)] (va_P G.1 vwCl (wM G m σ V ζ ns x len B))) (zS (.int (nI (σ (64 + 53 * k + w))))) 0 0 (fun _ => False) := by
  refine zmkI (cc := cX5_of) (maxL := 3) (by decide) rfl (Nat.le_of_ble_eq_true rfl) ?_
  intro pr en st mi ar bl me cd ls Q hx hb hml hown hts hG hP hl hret
  have hown : st.vm.findClass RX5 = some mi.cls := hown
  have hl : lv_has ls 3 [(0, .ref (m 0)), (1, .int (nI k)), (2, .int (nI w))] := hl
  have hP : va_P G.1 vwCl (wM G m σ V ζ ns x len B) st.heap := hP
  have hinX5 : ∀ w ∈ wsX50, w ∈ wsX5_of := by decide +kernel
  have hf7 := hts (.fieldLink RX5 7 "MapSheetsModel" "s" "[I") (by decide +kernel)
  refine lv_aload_n hx hb dX5_of_0 rfl (lv_at hl 0 rfl) ?_
  refine va_get (D := G.1) (ci := 5) (v := .ref (m 1)) (C := RX5) (T := TX5) (N := 7) hx hb hts hinX5 hown hG.1 hP 0 rfl rfl 0 (by decide) hf7 (fun _ h9 => h9) rfl dX5_of_1 ?_
  refine lv_bipush (v := nI 64) hx hb dX5_of_4 (by decide) ?_
  refine lv_bipush (v := nI 53) hx hb dX5_of_6 (by decide) ?_
  refine lv_iload_n hx hb dX5_of_8 rfl (lv_at hl 1 rfl) ?_
  refine lv_imul hx hb dX5_of_9 ?_
  refine lv_topi (nm_r (e' := nI (53 * k)) (pk_mul _ _) ?_)
  refine lv_iadd hx hb dX5_of_10 ?_
  refine lv_topi (nm_r (e' := nI (64 + (53 * k))) (nI_add _ _) ?_)
  refine lv_iload_n hx hb dX5_of_11 rfl (lv_at hl 2 rfl) ?_
  refine lv_iadd hx hb dX5_of_12 ?_
  refine lv_topi (nm_r (e' := nI ((64 + (53 * k)) + w)) (nI_add _ _) ?_)
  refine va_iald hx hb hG.1 hP 1 0 rfl rfl (vp_in_nI (n := (64 + (53 * k)) + w) (N := 1972) (by omega) (by omega)) dX5_of_13 ?_
  refine lv_topi (nm_r (e' := nI (σ ((64 + (53 * k)) + w))) (by rw [nI_clamp (by omega)]; exact sF_n (by omega)) ?_)
  exact hret _ _ _ dX5_of_14 (congrArg nI (rfl))
set_option maxHeartbeats 4000000 in
set_option maxRecDepth 100000 in
theorem kX5_of_p (l : Launch) (G : zG) (m : Nat → Nat) (σ : Nat → Nat) (V : Nat → Nat → Nat) (ζ : Nat → Nat) (ns : Nat) (x : Nat → Nat) (len : Nat) (B : Nat → Int32) (k : Nat) (hk : k < 36) : Met l yX5_of wsX5_of (zRm 0 0) (zPc G [.ref (m 0), .int (nI k), .int (nI 51)] (va_P G.1 vwCl (wM G m σ V ζ ns x len B))) (zS (.int (zc4 (pbn σ k)))) 0 0 (fun _ => False) := by
  refine zmkI (cc := cX5_of) (maxL := 3) (by decide) rfl (Nat.le_of_ble_eq_true rfl) ?_
  intro pr en st mi ar bl me cd ls Q hx hb hml hown hts hG hP hl hret
  have hown : st.vm.findClass RX5 = some mi.cls := hown
  have hl : lv_has ls 3 [(0, .ref (m 0)), (1, .int (nI k)), (2, .int (nI 51))] := hl
  have hP : va_P G.1 vwCl (wM G m σ V ζ ns x len B) st.heap := hP
  have hinX5 : ∀ w ∈ wsX50, w ∈ wsX5_of := by decide +kernel
  have hf7 := hts (.fieldLink RX5 7 "MapSheetsModel" "s" "[I") (by decide +kernel)
  refine lv_aload_n hx hb dX5_of_0 rfl (lv_at hl 0 rfl) ?_
  refine va_get (D := G.1) (ci := 5) (v := .ref (m 1)) (C := RX5) (T := TX5) (N := 7) hx hb hts hinX5 hown hG.1 hP 0 rfl rfl 0 (by decide) hf7 (fun _ h9 => h9) rfl dX5_of_1 ?_
  refine lv_bipush (v := nI 64) hx hb dX5_of_4 (by decide) ?_
  refine lv_bipush (v := nI 53) hx hb dX5_of_6 (by decide) ?_
  refine lv_iload_n hx hb dX5_of_8 rfl (lv_at hl 1 rfl) ?_
  refine lv_imul hx hb dX5_of_9 ?_
  refine lv_topi (nm_r (e' := nI (53 * k)) (pk_mul _ _) ?_)
  refine lv_iadd hx hb dX5_of_10 ?_
  refine lv_topi (nm_r (e' := nI (64 + (53 * k))) (nI_add _ _) ?_)
  refine lv_iload_n hx hb dX5_of_11 rfl (lv_at hl 2 rfl) ?_
  refine lv_iadd hx hb dX5_of_12 ?_
  refine lv_topi (nm_r (e' := nI ((64 + (53 * k)) + 51)) (nI_add _ _) ?_)
  refine va_iald hx hb hG.1 hP 1 0 rfl rfl (vp_in_nI (n := (64 + (53 * k)) + 51) (N := 1972) (by omega) (by omega)) dX5_of_13 ?_
  refine lv_topi (nm_r (e' := (sF σ) ((64 + (53 * k)) + 51)) (by rw [nI_clamp (by omega)]) ?_)
  exact hret _ _ _ dX5_of_14 (by exact sF_p σ k)
set_option maxHeartbeats 4000000 in
set_option maxRecDepth 100000 in
theorem kX5_signAt (l : Launch) (G : zG) (m : Nat → Nat) (σ : Nat → Nat) (V : Nat → Nat → Nat) (ζ : Nat → Nat) (ns : Nat) (x : Nat → Nat) (len : Nat) (B : Nat → Int32) (k : Nat) (d : Nat) (p : Nat) (hk : k < 36) (hd4 : d < 4) (hp : p < 10) : Met l yX5_signAt wsX5_signAt (zRm 1 22) (zPc G [.ref (m 0), .int (nI k), .int (nI d), .int (nI p)] (va_P G.1 vwCl (wM G m σ V ζ ns x len B))) (zS (.int (nI (sgn σ k d p)))) 0 0 (fun _ => False) := by
  refine zmkI (cc := cX5_signAt) (maxL := 4) (by decide) rfl (Nat.le_of_ble_eq_true rfl) ?_
  intro pr en st mi ar bl me cd ls Q hx hb hml hown hts hG hP hl hret
  have hown : st.vm.findClass RX5 = some mi.cls := hown
  have hl : lv_has ls 4 [(0, .ref (m 0)), (1, .int (nI k)), (2, .int (nI d)), (3, .int (nI p))] := hl
  have hP : va_P G.1 vwCl (wM G m σ V ζ ns x len B) st.heap := hP
  refine lv_aload_n hx hb dX5_signAt_0 rfl (lv_at hl 0 rfl) ?_
  refine lv_iload_n hx hb dX5_signAt_1 rfl (lv_at hl 1 rfl) ?_
  refine lv_bipush (v := nI 10) hx hb dX5_signAt_2 (by decide) ?_
  refine lv_iload_n hx hb dX5_signAt_4 rfl (lv_at hl 2 rfl) ?_
  refine lv_imul hx hb dX5_signAt_5 ?_
  refine lv_topi (nm_r (e' := nI (10 * d)) (pk_mul _ _) ?_)
  refine lv_iload_n hx hb dX5_signAt_6 rfl (lv_at hl 3 rfl) ?_
  refine lv_iadd hx hb dX5_signAt_7 ?_
  refine lv_topi (nm_r (e' := nI ((10 * d) + p)) (nI_add _ _) ?_)
  refine zrdV (As := [.int (nI k), .int (nI ((10 * d) + p))]) ⟨hx, hb, hml, hown, hts⟩ (kX5_of l G m σ V ζ ns x len B k ((10 * d) + p) (by omega) (by omega) (by omega)) (cwV 2 hts gX5_signAt_X5_of rfl rfl rfl (by decide +kernel) ⟨Nat.le_of_ble_eq_true rfl, Nat.le_of_ble_eq_true rfl⟩) hG (va_recv (q0 := 0) (ci := 5) hG.1 hP rfl rfl) (hP) rfl rfl hl.1 dX5_signAt_8 (Nat.le_of_ble_eq_true rfl) ⟨Nat.le_of_ble_eq_true rfl, Nat.le_of_ble_eq_true rfl⟩ ?_
  exact hret _ _ _ dX5_signAt_11 (congrArg nI (rfl))
set_option maxHeartbeats 4000000 in
set_option maxRecDepth 100000 in
theorem kX5_meansAt (l : Launch) (G : zG) (m : Nat → Nat) (σ : Nat → Nat) (V : Nat → Nat → Nat) (ζ : Nat → Nat) (ns : Nat) (x : Nat → Nat) (len : Nat) (B : Nat → Int32) {N : Nat} (k : Nat) (d : Nat) (p : Nat) (hO : Ok N σ) (hk : k < 36) (hd4 : d < 4) (hp : p < 10) : Met l yX5_meansAt wsX5_meansAt (zRm 2 45) (zPc G [.ref (m 0), .int (nI k), .int (nI d), .int (nI p)] (va_P G.1 vwCl (wM G m σ V ζ ns x len B))) (zS (.int (nI (mns σ k d p)))) 0 0 (fun _ => False) := by
  refine zmkI (cc := cX5_meansAt) (maxL := 5) (by decide) rfl (Nat.le_of_ble_eq_true rfl) ?_
  intro pr en st mi ar bl me cd ls Q hx hb hml hown hts hG hP hl hret
  have hown : st.vm.findClass RX5 = some mi.cls := hown
  have hl : lv_has ls 5 [(0, .ref (m 0)), (1, .int (nI k)), (2, .int (nI d)), (3, .int (nI p))] := hl
  have hP : va_P G.1 vwCl (wM G m σ V ζ ns x len B) st.heap := hP
  have hc := hO.c
  have hs := hO.lS
  have hr := hO.lR
  have hne := hO.lE
  have hsg := hO.sg hk hd4 hp
  refine lv_aload_n hx hb dX5_meansAt_0 rfl (lv_at hl 0 rfl) ?_
  refine lv_iload_n hx hb dX5_meansAt_1 rfl (lv_at hl 1 rfl) ?_
  refine lv_iload_n hx hb dX5_meansAt_2 rfl (lv_at hl 2 rfl) ?_
  refine lv_iload_n hx hb dX5_meansAt_3 rfl (lv_at hl 3 rfl) ?_
  refine zrdV (As := [.int (nI k), .int (nI d), .int (nI p)]) ⟨hx, hb, hml, hown, hts⟩ (kX5_signAt l G m σ V ζ ns x len B k d p (by omega) (by omega) (by omega)) (cwV 3 hts gX5_meansAt_X5_signAt rfl rfl rfl (by decide +kernel) ⟨Nat.le_of_ble_eq_true rfl, Nat.le_of_ble_eq_true rfl⟩) hG (va_recv (q0 := 0) (ci := 5) hG.1 hP rfl rfl) (hP) rfl rfl hl.1 dX5_meansAt_4 (Nat.le_of_ble_eq_true rfl) ⟨Nat.le_of_ble_eq_true rfl, Nat.le_of_ble_eq_true rfl⟩ ?_
  refine lv_istore (lv' := [(4, .int (nI (sgn σ k d p))), (0, .ref (m 0)), (1, .int (nI k)), (2, .int (nI d)), (3, .int (nI p))]) hx hb dX5_meansAt_7 hl (by decide) rfl (fun ls hl => ?_)
  refine lv_iload hx hb dX5_meansAt_9 (lv_at hl 0 rfl) ?_
  refine lv_bipush (v := nI 10) hx hb dX5_meansAt_11 (by decide) ?_
  refine lv_icmp_ne (tgt := 21) hx hb dX5_meansAt_13 (by decide) (fun h13 => ?_) (fun h13 => ?_)
  · skip
    have h13 : ¬ ((sgn σ k d p) = 10) := fun q => h13 ((nI_eq (by omega) (by omega)).mpr q)
    refine lv_aload_n hx hb dX5_meansAt_21 rfl (lv_at hl 1 rfl) ?_
    refine lv_iload_n hx hb dX5_meansAt_22 rfl (lv_at hl 2 rfl) ?_
    refine lv_bipush (v := nI 40) hx hb dX5_meansAt_23 (by decide) ?_
    refine lv_iload hx hb dX5_meansAt_25 (lv_at hl 0 rfl) ?_
    refine lv_iadd hx hb dX5_meansAt_27 ?_
    refine lv_topi (nm_r (e' := nI (40 + (sgn σ k d p))) (nI_add _ _) ?_)
    refine zrdV (As := [.int (nI k), .int (nI (40 + (sgn σ k d p)))]) ⟨hx, hb, hml, hown, hts⟩ (kX5_of l G m σ V ζ ns x len B k (40 + (sgn σ k d p)) (by omega) (by omega) (by omega)) (cwV 2 hts gX5_meansAt_X5_of rfl rfl rfl (by decide +kernel) ⟨Nat.le_of_ble_eq_true rfl, Nat.le_of_ble_eq_true rfl⟩) hG (va_recv (q0 := 0) (ci := 5) hG.1 hP rfl rfl) (hP) rfl rfl hl.1 dX5_meansAt_28 (Nat.le_of_ble_eq_true rfl) ⟨Nat.le_of_ble_eq_true rfl, Nat.le_of_ble_eq_true rfl⟩ ?_
    exact hret _ _ _ dX5_meansAt_31 (congrArg nI (by unfold mns mng; rw [if_neg h13]; congr 1; omega))
  · skip
    have h13 : (sgn σ k d p) = 10 := (nI_eq (by omega) (by omega)).mp h13
    refine lv_bipush (v := nI 10) hx hb dX5_meansAt_16 (by decide) ?_
    refine lv_goto (tgt := 31) hx hb dX5_meansAt_18 (by decide) ?_
    exact hret _ _ _ dX5_meansAt_31 (congrArg nI (by unfold mns; rw [if_pos h13]))
set_option maxHeartbeats 4000000 in
set_option maxRecDepth 100000 in
theorem kX5_firstOf (l : Launch) (G : zG) (m : Nat → Nat) (σ : Nat → Nat) (V : Nat → Nat → Nat) (ζ : Nat → Nat) (ns : Nat) (x : Nat → Nat) (len : Nat) (B : Nat → Int32) {N : Nat} (e : Nat) (hO : Ok N σ) (he : e < nE σ) : Met l yX5_firstOf wsX5_firstOf (zRm 1 20) (zPc G [.ref (m 0), .int (nI e)] (va_P G.1 vwCl (wM G m σ V ζ ns x len B))) (zS (.int (nI (fS σ e)))) 0 0 (fun _ => False) := by
  refine zmkI (cc := cX5_firstOf) (maxL := 3) (by decide) rfl (Nat.le_of_ble_eq_true rfl) ?_
  intro pr en st mi ar bl me cd ls Q hx hb hml hown hts hG hP hl hret
  have hown : st.vm.findClass RX5 = some mi.cls := hown
  have hl : lv_has ls 3 [(0, .ref (m 0)), (1, .int (nI e))] := hl
  have hP : va_P G.1 vwCl (wM G m σ V ζ ns x len B) st.heap := hP
  have hinX5 : ∀ w ∈ wsX50, w ∈ wsX5_firstOf := by decide +kernel
  have hf7 := hts (.fieldLink RX5 7 "MapSheetsModel" "s" "[I") (by decide +kernel)
  have hc := hO.c
  have hs := hO.lS
  have hr := hO.lR
  have hne := hO.lE
  refine lv_aload_n hx hb dX5_firstOf_0 rfl (lv_at hl 0 rfl) ?_
  refine va_get (D := G.1) (ci := 5) (v := .ref (m 1)) (C := RX5) (T := TX5) (N := 7) hx hb hts hinX5 hown hG.1 hP 0 rfl rfl 0 (by decide) hf7 (fun _ h9 => h9) rfl dX5_firstOf_1 ?_
  refine lv_iconst (v := nI 0) hx hb dX5_firstOf_4 (by decide) ?_
  refine va_iald hx hb hG.1 hP 1 0 rfl rfl (vp_in_nI (n := 0) (N := 1972) (by omega) (by omega)) dX5_firstOf_5 ?_
  refine lv_topi (nm_r (e' := nI (σ 0)) (by rw [nI_clamp (by omega)]; exact sF_n (by omega)) ?_)
  refine lv_istore_n (lv' := [(2, .int (nI (σ 0))), (0, .ref (m 0)), (1, .int (nI e))]) hx hb dX5_firstOf_6 rfl hl (by decide) rfl (fun ls hl => ?_)
  refine lv_iload_n hx hb dX5_firstOf_7 rfl (lv_at hl 2 rfl) ?_
  refine lv_aload_n hx hb dX5_firstOf_8 rfl (lv_at hl 1 rfl) ?_
  refine zrdV (As := []) ⟨hx, hb, hml, hown, hts⟩ (kX5_rowEdges l G m σ V ζ ns x len B (hO)) (cwV 0 hts gX5_firstOf_X5_rowEdges rfl rfl rfl (by decide +kernel) ⟨Nat.le_of_ble_eq_true rfl, Nat.le_of_ble_eq_true rfl⟩) hG (va_recv (q0 := 0) (ci := 5) hG.1 hP rfl rfl) (hP) rfl rfl hl.1 dX5_firstOf_9 (Nat.le_of_ble_eq_true rfl) ⟨Nat.le_of_ble_eq_true rfl, Nat.le_of_ble_eq_true rfl⟩ ?_
  refine lv_icmp_ge (tgt := 31) hx hb dX5_firstOf_12 (by decide) (fun h12 => ?_) (fun h12 => ?_)
  · skip
    have h12 : (rE σ) ≤ e := (nI_leI (by omega) (by omega)).mp h12
    refine lv_iload_n hx hb dX5_firstOf_31 rfl (lv_at hl 2 rfl) ?_
    refine lv_aload_n hx hb dX5_firstOf_32 rfl (lv_at hl 1 rfl) ?_
    refine zrdV (As := []) ⟨hx, hb, hml, hown, hts⟩ (kX5_rowEdges l G m σ V ζ ns x len B (hO)) (cwV 0 hts gX5_firstOf_X5_rowEdges rfl rfl rfl (by decide +kernel) ⟨Nat.le_of_ble_eq_true rfl, Nat.le_of_ble_eq_true rfl⟩) hG (va_recv (q0 := 0) (ci := 5) hG.1 hP rfl rfl) (hP) rfl rfl hl.1 dX5_firstOf_33 (Nat.le_of_ble_eq_true rfl) ⟨Nat.le_of_ble_eq_true rfl, Nat.le_of_ble_eq_true rfl⟩ ?_
    refine lv_isub hx hb dX5_firstOf_36 ?_
    refine lv_topi (nm_r (e' := nI (e - (rE σ))) (pk_sub (by omega)) ?_)
    exact hret _ _ _ dX5_firstOf_37 (congrArg nI (by unfold fS; first | (rw [if_pos (by omega)]; exact hg.2) | rw [if_neg (by omega)]))
  · skip
    have h12 : ¬ ((rE σ) ≤ e) := fun q => h12 ((nI_leI (by omega) (by omega)).mpr q)
    have hg := g_fs (σ 0) (by omega) (σ 1) (by omega) e (by show e < rE σ; omega) (by omega)
    have hc2 : 2 ≤ σ 0 := by refine Nat.not_lt.mp fun z => ?_; have h1 : σ 0 = 1 := (by omega); have h2 : rE σ = 0 := (by show (σ 0 - 1) * σ 1 = 0; simp [h1]); omega
    have hdv := Nat.div_le_self e (σ 0 - 1)
    refine lv_iload_n hx hb dX5_firstOf_15 rfl (lv_at hl 2 rfl) ?_
    refine lv_iload_n hx hb dX5_firstOf_16 rfl (lv_at hl 0 rfl) ?_
    refine lv_iconst (v := nI 1) hx hb dX5_firstOf_17 (by decide) ?_
    refine lv_isub hx hb dX5_firstOf_18 ?_
    refine lv_topi (nm_r (e' := nI ((σ 0) - 1)) (pk_sub (by omega)) ?_)
    refine lv_idiv hx hb dX5_firstOf_19 (nI_ne0 (by omega) (by omega)) ?_
    refine lv_topi (nm_r (e' := nI (e / ((σ 0) - 1))) (pk_div (by omega) (by omega) (by omega)) ?_)
    refine lv_iload_n hx hb dX5_firstOf_20 rfl (lv_at hl 0 rfl) ?_
    refine lv_imul hx hb dX5_firstOf_21 ?_
    refine lv_topi (nm_r (e' := nI ((e / ((σ 0) - 1)) * (σ 0))) (pk_mul _ _) ?_)
    refine lv_iload_n hx hb dX5_firstOf_22 rfl (lv_at hl 2 rfl) ?_
    refine lv_iload_n hx hb dX5_firstOf_23 rfl (lv_at hl 0 rfl) ?_
    refine lv_iconst (v := nI 1) hx hb dX5_firstOf_24 (by decide) ?_
    refine lv_isub hx hb dX5_firstOf_25 ?_
    refine lv_topi (nm_r (e' := nI ((σ 0) - 1)) (pk_sub (by omega)) ?_)
    refine lv_irem hx hb dX5_firstOf_26 (nI_ne0 (by omega) (by omega)) ?_
    refine lv_topi (nm_r (e' := nI (e % ((σ 0) - 1))) (pk_rem (by omega) (by omega) (by omega)) ?_)
    refine lv_iadd hx hb dX5_firstOf_27 ?_
    refine lv_topi (nm_r (e' := nI (((e / ((σ 0) - 1)) * (σ 0)) + (e % ((σ 0) - 1)))) (nI_add _ _) ?_)
    refine lv_goto (tgt := 37) hx hb dX5_firstOf_28 (by decide) ?_
    exact hret _ _ _ dX5_firstOf_37 (congrArg nI (by unfold fS; first | (rw [if_pos (by omega)]; exact hg.2) | rw [if_neg (by omega)]))
set_option maxHeartbeats 4000000 in
set_option maxRecDepth 100000 in
theorem kX5_secondOf (l : Launch) (G : zG) (m : Nat → Nat) (σ : Nat → Nat) (V : Nat → Nat → Nat) (ζ : Nat → Nat) (ns : Nat) (x : Nat → Nat) (len : Nat) (B : Nat → Int32) {N : Nat} (e : Nat) (hO : Ok N σ) (he : e < nE σ) : Met l yX5_secondOf wsX5_secondOf (zRm 2 42) (zPc G [.ref (m 0), .int (nI e)] (va_P G.1 vwCl (wM G m σ V ζ ns x len B))) (zS (.int (nI (sS σ e)))) 0 0 (fun _ => False) := by
  refine zmkI (cc := cX5_secondOf) (maxL := 2) (by decide) rfl (Nat.le_of_ble_eq_true rfl) ?_
  intro pr en st mi ar bl me cd ls Q hx hb hml hown hts hG hP hl hret
  have hown : st.vm.findClass RX5 = some mi.cls := hown
  have hl : lv_has ls 2 [(0, .ref (m 0)), (1, .int (nI e))] := hl
  have hP : va_P G.1 vwCl (wM G m σ V ζ ns x len B) st.heap := hP
  have hinX5 : ∀ w ∈ wsX50, w ∈ wsX5_secondOf := by decide +kernel
  have hf7 := hts (.fieldLink RX5 7 "MapSheetsModel" "s" "[I") (by decide +kernel)
  have hc := hO.c
  have hs := hO.lS
  have hr := hO.lR
  have hne := hO.lE
  have hf := hO.lF he
  refine lv_aload_n hx hb dX5_secondOf_0 rfl (lv_at hl 0 rfl) ?_
  refine lv_iload_n hx hb dX5_secondOf_1 rfl (lv_at hl 1 rfl) ?_
  refine zrdV (As := [.int (nI e)]) ⟨hx, hb, hml, hown, hts⟩ (kX5_firstOf l G m σ V ζ ns x len B e (hO) (by omega)) (cwV 1 hts gX5_secondOf_X5_firstOf rfl rfl rfl (by decide +kernel) ⟨Nat.le_of_ble_eq_true rfl, Nat.le_of_ble_eq_true rfl⟩) hG (va_recv (q0 := 0) (ci := 5) hG.1 hP rfl rfl) (hP) rfl rfl hl.1 dX5_secondOf_2 (Nat.le_of_ble_eq_true rfl) ⟨Nat.le_of_ble_eq_true rfl, Nat.le_of_ble_eq_true rfl⟩ ?_
  have hf2_0 := hO.lF (show e < nE σ by omega)
  refine lv_iload_n hx hb dX5_secondOf_5 rfl (lv_at hl 1 rfl) ?_
  refine lv_aload_n hx hb dX5_secondOf_6 rfl (lv_at hl 0 rfl) ?_
  refine zrdV (As := []) ⟨hx, hb, hml, hown, hts⟩ (kX5_rowEdges l G m σ V ζ ns x len B (hO)) (cwV 0 hts gX5_secondOf_X5_rowEdges rfl rfl rfl (by decide +kernel) ⟨Nat.le_of_ble_eq_true rfl, Nat.le_of_ble_eq_true rfl⟩) hG (va_recv (q0 := 0) (ci := 5) hG.1 hP rfl rfl) (hP) rfl rfl hl.1 dX5_secondOf_7 (Nat.le_of_ble_eq_true rfl) ⟨Nat.le_of_ble_eq_true rfl, Nat.le_of_ble_eq_true rfl⟩ ?_
  refine lv_icmp_ge (tgt := 17) hx hb dX5_secondOf_10 (by decide) (fun h10 => ?_) (fun h10 => ?_)
  · skip
    have h10 : (rE σ) ≤ e := (nI_leI (by omega) (by omega)).mp h10
    refine lv_aload_n hx hb dX5_secondOf_17 rfl (lv_at hl 0 rfl) ?_
    refine va_get (D := G.1) (ci := 5) (v := .ref (m 1)) (C := RX5) (T := TX5) (N := 7) hx hb hts hinX5 hown hG.1 hP 0 rfl rfl 0 (by decide) hf7 (fun _ h9 => h9) rfl dX5_secondOf_18 ?_
    refine lv_iconst (v := nI 0) hx hb dX5_secondOf_21 (by decide) ?_
    refine va_iald hx hb hG.1 hP 1 0 rfl rfl (vp_in_nI (n := 0) (N := 1972) (by omega) (by omega)) dX5_secondOf_22 ?_
    refine lv_topi (nm_r (e' := nI (σ 0)) (by rw [nI_clamp (by omega)]; exact sF_n (by omega)) ?_)
    refine lv_iadd hx hb dX5_secondOf_23 ?_
    refine lv_topi (nm_r (e' := nI ((fS σ e) + (σ 0))) (nI_add _ _) ?_)
    exact hret _ _ _ dX5_secondOf_24 (congrArg nI (by unfold sS; first | rw [if_pos (by omega)] | rw [if_neg (by omega)]))
  · skip
    have h10 : ¬ ((rE σ) ≤ e) := fun q => h10 ((nI_leI (by omega) (by omega)).mpr q)
    refine lv_iconst (v := nI 1) hx hb dX5_secondOf_13 (by decide) ?_
    refine lv_goto (tgt := 23) hx hb dX5_secondOf_14 (by decide) ?_
    refine lv_iadd hx hb dX5_secondOf_23 ?_
    refine lv_topi (nm_r (e' := nI ((fS σ e) + 1)) (nI_add _ _) ?_)
    exact hret _ _ _ dX5_secondOf_24 (congrArg nI (by unfold sS; first | rw [if_pos (by omega)] | rw [if_neg (by omega)]))
set_option maxHeartbeats 4000000 in
set_option maxRecDepth 100000 in
theorem kX5_sideOf (l : Launch) (G : zG) (m : Nat → Nat) (σ : Nat → Nat) (V : Nat → Nat → Nat) (ζ : Nat → Nat) (ns : Nat) (x : Nat → Nat) (len : Nat) (B : Nat → Int32) {N : Nat} (e : Nat) (hO : Ok N σ) (he : e < nE σ) : Met l yX5_sideOf wsX5_sideOf (zRm 1 20) (zPc G [.ref (m 0), .int (nI e)] (va_P G.1 vwCl (wM G m σ V ζ ns x len B))) (zS (.int (nI (fD σ e)))) 0 0 (fun _ => False) := by
  refine zmkI (cc := cX5_sideOf) (maxL := 2) (by decide) rfl (Nat.le_of_ble_eq_true rfl) ?_
  intro pr en st mi ar bl me cd ls Q hx hb hml hown hts hG hP hl hret
  have hown : st.vm.findClass RX5 = some mi.cls := hown
  have hl : lv_has ls 2 [(0, .ref (m 0)), (1, .int (nI e))] := hl
  have hP : va_P G.1 vwCl (wM G m σ V ζ ns x len B) st.heap := hP
  have hc := hO.c
  have hs := hO.lS
  have hr := hO.lR
  have hne := hO.lE
  refine lv_iload_n hx hb dX5_sideOf_0 rfl (lv_at hl 1 rfl) ?_
  refine lv_aload_n hx hb dX5_sideOf_1 rfl (lv_at hl 0 rfl) ?_
  refine zrdV (As := []) ⟨hx, hb, hml, hown, hts⟩ (kX5_rowEdges l G m σ V ζ ns x len B (hO)) (cwV 0 hts gX5_sideOf_X5_rowEdges rfl rfl rfl (by decide +kernel) ⟨Nat.le_of_ble_eq_true rfl, Nat.le_of_ble_eq_true rfl⟩) hG (va_recv (q0 := 0) (ci := 5) hG.1 hP rfl rfl) (hP) rfl rfl hl.1 dX5_sideOf_2 (Nat.le_of_ble_eq_true rfl) ⟨Nat.le_of_ble_eq_true rfl, Nat.le_of_ble_eq_true rfl⟩ ?_
  refine lv_icmp_ge (tgt := 12) hx hb dX5_sideOf_5 (by decide) (fun h5 => ?_) (fun h5 => ?_)
  · skip
    have h5 : (rE σ) ≤ e := (nI_leI (by omega) (by omega)).mp h5
    refine lv_iconst (v := nI 2) hx hb dX5_sideOf_12 (by decide) ?_
    exact hret _ _ _ dX5_sideOf_13 (congrArg nI (by unfold fD; first | rw [if_pos (by omega)] | rw [if_neg (by omega)]))
  · skip
    have h5 : ¬ ((rE σ) ≤ e) := fun q => h5 ((nI_leI (by omega) (by omega)).mpr q)
    refine lv_iconst (v := nI 1) hx hb dX5_sideOf_8 (by decide) ?_
    refine lv_goto (tgt := 13) hx hb dX5_sideOf_9 (by decide) ?_
    exact hret _ _ _ dX5_sideOf_13 (congrArg nI (by unfold fD; first | rw [if_pos (by omega)] | rw [if_neg (by omega)]))
set_option maxHeartbeats 4000000 in
set_option maxRecDepth 100000 in
theorem kX5_edgeOf (l : Launch) (G : zG) (m : Nat → Nat) (σ : Nat → Nat) (V : Nat → Nat → Nat) (ζ : Nat → Nat) (ns : Nat) (x : Nat → Nat) (len : Nat) (B : Nat → Int32) {N : Nat} (k : Nat) (d : Nat) (hO : Ok N σ) (hk : k < nS σ) (hd4 : d < 4) : Met l yX5_edgeOf wsX5_edgeOf (zRm 1 20) (zPc G [.ref (m 0), .int (nI k), .int (nI d)] (va_P G.1 vwCl (wM G m σ V ζ ns x len B))) (zS (.int (zc 60 (eO σ k d)))) 0 0 (fun _ => False) := by
  refine zmkI (cc := cX5_edgeOf) (maxL := 6) (by decide) rfl (Nat.le_of_ble_eq_true rfl) ?_
  intro pr en st mi ar bl me cd ls Q hx hb hml hown hts hG hP hl hret
  have hown : st.vm.findClass RX5 = some mi.cls := hown
  have hl : lv_has ls 6 [(0, .ref (m 0)), (1, .int (nI k)), (2, .int (nI d))] := hl
  have hP : va_P G.1 vwCl (wM G m σ V ζ ns x len B) st.heap := hP
  have hinX5 : ∀ w ∈ wsX50, w ∈ wsX5_edgeOf := by decide +kernel
  have hf7 := hts (.fieldLink RX5 7 "MapSheetsModel" "s" "[I") (by decide +kernel)
  have hc := hO.c
  have hs := hO.lS
  have hr := hO.lR
  have hne := hO.lE
  have hm := Nat.mod_lt k (show σ 0 > 0 by omega)
  have hdd := Nat.div_le_self k (σ 0)
  have hre : rE σ = (σ 0 - 1) * σ 1 := rfl
  have hq := hO.kd hk
  have hlo := hO.lO hk hd4
  have hdm : σ 0 * (k / σ 0) + k % σ 0 = k := Nat.div_add_mod k (σ 0)
  refine lv_aload_n hx hb dX5_edgeOf_0 rfl (lv_at hl 0 rfl) ?_
  refine va_get (D := G.1) (ci := 5) (v := .ref (m 1)) (C := RX5) (T := TX5) (N := 7) hx hb hts hinX5 hown hG.1 hP 0 rfl rfl 0 (by decide) hf7 (fun _ h9 => h9) rfl dX5_edgeOf_1 ?_
  refine lv_iconst (v := nI 0) hx hb dX5_edgeOf_4 (by decide) ?_
  refine va_iald hx hb hG.1 hP 1 0 rfl rfl (vp_in_nI (n := 0) (N := 1972) (by omega) (by omega)) dX5_edgeOf_5 ?_
  refine lv_topi (nm_r (e' := nI (σ 0)) (by rw [nI_clamp (by omega)]; exact sF_n (by omega)) ?_)
  refine lv_istore_n (lv' := [(3, .int (nI (σ 0))), (0, .ref (m 0)), (1, .int (nI k)), (2, .int (nI d))]) hx hb dX5_edgeOf_6 rfl hl (by decide) rfl (fun ls hl => ?_)
  refine lv_iload_n hx hb dX5_edgeOf_7 rfl (lv_at hl 2 rfl) ?_
  refine lv_iload_n hx hb dX5_edgeOf_8 rfl (lv_at hl 0 rfl) ?_
  refine lv_irem hx hb dX5_edgeOf_9 (nI_ne0 (by omega) (by omega)) ?_
  refine lv_topi (nm_r (e' := nI (k % (σ 0))) (pk_rem (by omega) (by omega) (by omega)) ?_)
  refine lv_istore (lv' := [(4, .int (nI (k % (σ 0)))), (3, .int (nI (σ 0))), (0, .ref (m 0)), (1, .int (nI k)), (2, .int (nI d))]) hx hb dX5_edgeOf_10 hl (by decide) rfl (fun ls hl => ?_)
  refine lv_iload_n hx hb dX5_edgeOf_12 rfl (lv_at hl 3 rfl) ?_
  refine lv_iload_n hx hb dX5_edgeOf_13 rfl (lv_at hl 1 rfl) ?_
  refine lv_idiv hx hb dX5_edgeOf_14 (nI_ne0 (by omega) (by omega)) ?_
  refine lv_topi (nm_r (e' := nI (k / (σ 0))) (pk_div (by omega) (by omega) (by omega)) ?_)
  refine lv_istore (lv' := [(5, .int (nI (k / (σ 0)))), (4, .int (nI (k % (σ 0)))), (3, .int (nI (σ 0))), (0, .ref (m 0)), (1, .int (nI k)), (2, .int (nI d))]) hx hb dX5_edgeOf_15 hl (by decide) rfl (fun ls hl => ?_)
  refine lv_iload_n hx hb dX5_edgeOf_17 rfl (lv_at hl 5 rfl) ?_
  rcases (show d = 0 ∨ d = 1 ∨ d = 2 ∨ d = 3 by omega) with hw18 | hw18 | hw18 | hw18
  · refine lv_tableIn (off := 26) (tgt := 44) hx hb dX5_edgeOf_18 (by rw [hw18]; decide) (by rw [hw18]; decide) (by rw [hw18]; decide) (by decide) ?_
    refine lv_iload hx hb dX5_edgeOf_44 (lv_at hl 0 rfl) ?_
    refine lv_if_le (tgt := 60) hx hb dX5_edgeOf_46 (by decide) (fun h46 => ?_) (fun h46 => ?_)
    · skip
      have h46 : (k / (σ 0)) = 0 := (z_le0 (by omega)).mp h46
      refine lv_bipush (v := (-4)) hx hb dX5_edgeOf_60 (by decide) ?_
      exact hret _ _ _ dX5_edgeOf_62 (by unfold eO; rw [if_pos hw18, if_neg (by first | assumption | omega), zc_b])
    · skip
      have h46 : ¬ ((k / (σ 0)) = 0) := fun q => h46 ((z_le0 (by omega)).mpr q)
      have h46 : 0 < (k / (σ 0)) := Nat.pos_of_ne_zero h46
      have hcm : σ 0 * 1 ≤ σ 0 * (k / σ 0) := Nat.mul_le_mul (Nat.le_refl _) h46
      refine lv_aload_n hx hb dX5_edgeOf_49 rfl (lv_at hl 3 rfl) ?_
      refine zrdV (As := []) ⟨hx, hb, hml, hown, hts⟩ (kX5_rowEdges l G m σ V ζ ns x len B (hO)) (cwV 0 hts gX5_edgeOf_X5_rowEdges rfl rfl rfl (by decide +kernel) ⟨Nat.le_of_ble_eq_true rfl, Nat.le_of_ble_eq_true rfl⟩) hG (va_recv (q0 := 0) (ci := 5) hG.1 hP rfl rfl) (hP) rfl rfl hl.1 dX5_edgeOf_50 (Nat.le_of_ble_eq_true rfl) ⟨Nat.le_of_ble_eq_true rfl, Nat.le_of_ble_eq_true rfl⟩ ?_
      refine lv_iload_n hx hb dX5_edgeOf_53 rfl (lv_at hl 4 rfl) ?_
      refine lv_iadd hx hb dX5_edgeOf_54 ?_
      refine lv_topi (nm_r (e' := nI ((rE σ) + k)) (nI_add _ _) ?_)
      refine lv_iload_n hx hb dX5_edgeOf_55 rfl (lv_at hl 2 rfl) ?_
      refine lv_isub hx hb dX5_edgeOf_56 ?_
      refine lv_topi (nm_r (e' := nI (((rE σ) + k) - (σ 0))) (pk_sub (by omega)) ?_)
      refine lv_goto (tgt := 62) hx hb dX5_edgeOf_57 (by decide) ?_
      have hT := hO.lT hk
      have hE : eO σ k d = ((rE σ) + k) - (σ 0) := by unfold eO; rw [if_pos hw18, if_pos (by first | assumption | omega)]
      exact hret _ _ _ dX5_edgeOf_62 (by rw [hE, zc_n (by omega)])
  · refine lv_tableIn (off := 45) (tgt := 63) hx hb dX5_edgeOf_18 (by rw [hw18]; decide) (by rw [hw18]; decide) (by rw [hw18]; decide) (by decide) ?_
    refine lv_iload hx hb dX5_edgeOf_63 (lv_at hl 1 rfl) ?_
    refine lv_iload_n hx hb dX5_edgeOf_65 rfl (lv_at hl 2 rfl) ?_
    refine lv_iconst (v := nI 1) hx hb dX5_edgeOf_66 (by decide) ?_
    refine lv_isub hx hb dX5_edgeOf_67 ?_
    refine lv_topi (nm_r (e' := nI ((σ 0) - 1)) (pk_sub (by omega)) ?_)
    refine lv_icmp_ge (tgt := 83) hx hb dX5_edgeOf_68 (by decide) (fun h68 => ?_) (fun h68 => ?_)
    · skip
      have h68 : ((σ 0) - 1) ≤ (k % (σ 0)) := (nI_leI (by omega) (by omega)).mp h68
      refine lv_bipush (v := (-4)) hx hb dX5_edgeOf_83 (by decide) ?_
      exact hret _ _ _ dX5_edgeOf_85 (by unfold eO; rw [if_neg (by omega), if_pos hw18, if_neg (by first | assumption | omega), zc_b])
    · skip
      have h68 : ¬ (((σ 0) - 1) ≤ (k % (σ 0))) := fun q => h68 ((nI_leI (by omega) (by omega)).mpr q)
      refine lv_iload hx hb dX5_edgeOf_71 (lv_at hl 0 rfl) ?_
      refine lv_iload_n hx hb dX5_edgeOf_73 rfl (lv_at hl 2 rfl) ?_
      refine lv_iconst (v := nI 1) hx hb dX5_edgeOf_74 (by decide) ?_
      refine lv_isub hx hb dX5_edgeOf_75 ?_
      refine lv_topi (nm_r (e' := nI ((σ 0) - 1)) (pk_sub (by omega)) ?_)
      refine lv_imul hx hb dX5_edgeOf_76 ?_
      refine lv_topi (nm_r (e' := nI ((k / (σ 0)) * ((σ 0) - 1))) (pk_mul _ _) ?_)
      refine lv_iload hx hb dX5_edgeOf_77 (lv_at hl 1 rfl) ?_
      refine lv_iadd hx hb dX5_edgeOf_79 ?_
      refine lv_topi (nm_r (e' := nI (((k / (σ 0)) * ((σ 0) - 1)) + (k % (σ 0)))) (nI_add _ _) ?_)
      refine lv_goto (tgt := 85) hx hb dX5_edgeOf_80 (by decide) ?_
      have hT := hO.lT hk
      have hE : eO σ k d = ((k / (σ 0)) * ((σ 0) - 1)) + (k % (σ 0)) := by unfold eO; rw [if_neg (by omega), if_pos hw18, if_pos (by first | assumption | omega)]
      exact hret _ _ _ dX5_edgeOf_85 (by rw [hE, zc_n (by omega)])
  · refine lv_tableIn (off := 68) (tgt := 86) hx hb dX5_edgeOf_18 (by rw [hw18]; decide) (by rw [hw18]; decide) (by rw [hw18]; decide) (by decide) ?_
    refine lv_iload hx hb dX5_edgeOf_86 (lv_at hl 0 rfl) ?_
    refine lv_aload_n hx hb dX5_edgeOf_88 rfl (lv_at hl 3 rfl) ?_
    refine va_get (D := G.1) (ci := 5) (v := .ref (m 1)) (C := RX5) (T := TX5) (N := 7) hx hb hts hinX5 hown hG.1 hP 0 rfl rfl 0 (by decide) hf7 (fun _ h9 => h9) rfl dX5_edgeOf_89 ?_
    refine lv_iconst (v := nI 1) hx hb dX5_edgeOf_92 (by decide) ?_
    refine va_iald hx hb hG.1 hP 1 0 rfl rfl (vp_in_nI (n := 1) (N := 1972) (by omega) (by omega)) dX5_edgeOf_93 ?_
    refine lv_topi (nm_r (e' := nI (σ 1)) (by rw [nI_clamp (by omega)]; exact sF_n (by omega)) ?_)
    refine lv_iconst (v := nI 1) hx hb dX5_edgeOf_94 (by decide) ?_
    refine lv_isub hx hb dX5_edgeOf_95 ?_
    refine lv_topi (nm_r (e' := nI ((σ 1) - 1)) (pk_sub (by omega)) ?_)
    refine lv_icmp_ge (tgt := 108) hx hb dX5_edgeOf_96 (by decide) (fun h96 => ?_) (fun h96 => ?_)
    · skip
      have h96 : ((σ 1) - 1) ≤ (k / (σ 0)) := (nI_leI (by omega) (by omega)).mp h96
      refine lv_bipush (v := (-4)) hx hb dX5_edgeOf_108 (by decide) ?_
      exact hret _ _ _ dX5_edgeOf_110 (by unfold eO; rw [if_neg (by omega), if_neg (by omega), if_pos hw18, if_neg (by first | assumption | omega), zc_b])
    · skip
      have h96 : ¬ (((σ 1) - 1) ≤ (k / (σ 0))) := fun q => h96 ((nI_leI (by omega) (by omega)).mpr q)
      refine lv_aload_n hx hb dX5_edgeOf_99 rfl (lv_at hl 3 rfl) ?_
      refine zrdV (As := []) ⟨hx, hb, hml, hown, hts⟩ (kX5_rowEdges l G m σ V ζ ns x len B (hO)) (cwV 0 hts gX5_edgeOf_X5_rowEdges rfl rfl rfl (by decide +kernel) ⟨Nat.le_of_ble_eq_true rfl, Nat.le_of_ble_eq_true rfl⟩) hG (va_recv (q0 := 0) (ci := 5) hG.1 hP rfl rfl) (hP) rfl rfl hl.1 dX5_edgeOf_100 (Nat.le_of_ble_eq_true rfl) ⟨Nat.le_of_ble_eq_true rfl, Nat.le_of_ble_eq_true rfl⟩ ?_
      refine lv_iload_n hx hb dX5_edgeOf_103 rfl (lv_at hl 4 rfl) ?_
      refine lv_iadd hx hb dX5_edgeOf_104 ?_
      refine lv_topi (nm_r (e' := nI ((rE σ) + k)) (nI_add _ _) ?_)
      refine lv_goto (tgt := 110) hx hb dX5_edgeOf_105 (by decide) ?_
      have hT := hO.lT hk
      have hE : eO σ k d = (rE σ) + k := by unfold eO; rw [if_neg (by omega), if_neg (by omega), if_pos hw18, if_pos (by first | assumption | omega)]
      exact hret _ _ _ dX5_edgeOf_110 (by rw [hE, zc_n (by omega)])
  · refine lv_tableOut (tgt := 111) hx hb dX5_edgeOf_18 (Or.inr (by rw [nI_toInt (by omega)]; omega)) (by decide) ?_
    refine lv_iload hx hb dX5_edgeOf_111 (lv_at hl 1 rfl) ?_
    refine lv_if_le (tgt := 130) hx hb dX5_edgeOf_113 (by decide) (fun h113 => ?_) (fun h113 => ?_)
    · skip
      have h113 : (k % (σ 0)) = 0 := (z_le0 (by omega)).mp h113
      refine lv_bipush (v := (-4)) hx hb dX5_edgeOf_130 (by decide) ?_
      exact hret _ _ _ dX5_edgeOf_132 (by unfold eO; rw [if_neg (by omega), if_neg (by omega), if_neg (by omega), if_neg (by first | assumption | omega), zc_b])
    · skip
      have h113 : ¬ ((k % (σ 0)) = 0) := fun q => h113 ((z_le0 (by omega)).mpr q)
      have h113 : 0 < (k % (σ 0)) := Nat.pos_of_ne_zero h113
      refine lv_iload hx hb dX5_edgeOf_116 (lv_at hl 0 rfl) ?_
      refine lv_iload_n hx hb dX5_edgeOf_118 rfl (lv_at hl 2 rfl) ?_
      refine lv_iconst (v := nI 1) hx hb dX5_edgeOf_119 (by decide) ?_
      refine lv_isub hx hb dX5_edgeOf_120 ?_
      refine lv_topi (nm_r (e' := nI ((σ 0) - 1)) (pk_sub (by omega)) ?_)
      refine lv_imul hx hb dX5_edgeOf_121 ?_
      refine lv_topi (nm_r (e' := nI ((k / (σ 0)) * ((σ 0) - 1))) (pk_mul _ _) ?_)
      refine lv_iload hx hb dX5_edgeOf_122 (lv_at hl 1 rfl) ?_
      refine lv_iadd hx hb dX5_edgeOf_124 ?_
      refine lv_topi (nm_r (e' := nI (((k / (σ 0)) * ((σ 0) - 1)) + (k % (σ 0)))) (nI_add _ _) ?_)
      refine lv_iconst (v := nI 1) hx hb dX5_edgeOf_125 (by decide) ?_
      refine lv_isub hx hb dX5_edgeOf_126 ?_
      refine lv_topi (nm_r (e' := nI ((((k / (σ 0)) * ((σ 0) - 1)) + (k % (σ 0))) - 1)) (pk_sub (by omega)) ?_)
      refine lv_goto (tgt := 132) hx hb dX5_edgeOf_127 (by decide) ?_
      have hT := hO.lT hk
      have hE : eO σ k d = (((k / (σ 0)) * ((σ 0) - 1)) + (k % (σ 0))) - 1 := by unfold eO; rw [if_neg (by omega), if_neg (by omega), if_neg (by omega), if_pos (by first | assumption | omega)]
      exact hret _ _ _ dX5_edgeOf_132 (by rw [hE, zc_n (by omega)])
set_option maxHeartbeats 4000000 in
set_option maxRecDepth 100000 in
theorem kX5_isAgreed (l : Launch) (G : zG) (m : Nat → Nat) (σ : Nat → Nat) (V : Nat → Nat → Nat) (ζ : Nat → Nat) (ns : Nat) (x : Nat → Nat) (len : Nat) (B : Nat → Int32) {N : Nat} (e : Nat) (hO : Ok N σ) (he : e < 60) : Met l yX5_isAgreed wsX5_isAgreed (zRm 0 0) (zPc G [.ref (m 0), .int (nI e)] (va_P G.1 vwCl (wM G m σ V ζ ns x len B))) (zS (.int (if agn σ e = 1 then 1 else 0))) 0 0 (fun _ => False) := by
  refine zmkZ (cc := cX5_isAgreed) (maxL := 2) (by decide) rfl (Nat.le_of_ble_eq_true rfl) ?_
  intro pr en st mi ar bl me cd ls Q hx hb hml hown hts hG hP hl hret
  have hown : st.vm.findClass RX5 = some mi.cls := hown
  have hl : lv_has ls 2 [(0, .ref (m 0)), (1, .int (nI e))] := hl
  have hP : va_P G.1 vwCl (wM G m σ V ζ ns x len B) st.heap := hP
  have hinX5 : ∀ w ∈ wsX50, w ∈ wsX5_isAgreed := by decide +kernel
  have hf7 := hts (.fieldLink RX5 7 "MapSheetsModel" "s" "[I") (by decide +kernel)
  have hc := hO.c
  have hs := hO.lS
  have hr := hO.lR
  have hne := hO.lE
  have hag := hO.ag he
  unfold agn at hag
  refine lv_aload_n hx hb dX5_isAgreed_0 rfl (lv_at hl 0 rfl) ?_
  refine va_get (D := G.1) (ci := 5) (v := .ref (m 1)) (C := RX5) (T := TX5) (N := 7) hx hb hts hinX5 hown hG.1 hP 0 rfl rfl 0 (by decide) hf7 (fun _ h9 => h9) rfl dX5_isAgreed_1 ?_
  refine lv_iconst (v := nI 4) hx hb dX5_isAgreed_4 (by decide) ?_
  refine lv_iload_n hx hb dX5_isAgreed_5 rfl (lv_at hl 1 rfl) ?_
  refine lv_iadd hx hb dX5_isAgreed_6 ?_
  refine lv_topi (nm_r (e' := nI (4 + e)) (nI_add _ _) ?_)
  refine va_iald hx hb hG.1 hP 1 0 rfl rfl (vp_in_nI (n := 4 + e) (N := 1972) (by omega) (by omega)) dX5_isAgreed_7 ?_
  refine lv_topi (nm_r (e' := nI (σ (4 + e))) (by rw [nI_clamp (by omega)]; exact sF_n (by omega)) ?_)
  refine lv_iconst (v := nI 1) hx hb dX5_isAgreed_8 (by decide) ?_
  refine lv_icmp_ne (tgt := 16) hx hb dX5_isAgreed_9 (by decide) (fun h9 => ?_) (fun h9 => ?_)
  · skip
    have h9 : ¬ ((σ (4 + e)) = 1) := fun q => h9 ((nI_eq (by omega) (by omega)).mpr q)
    refine lv_iconst (v := nI 0) hx hb dX5_isAgreed_16 (by decide) ?_
    exact hret _ _ _ dX5_isAgreed_17 (z_f (h9))
  · skip
    have h9 : (σ (4 + e)) = 1 := (nI_eq (by omega) (by omega)).mp h9
    refine lv_iconst (v := nI 1) hx hb dX5_isAgreed_12 (by decide) ?_
    refine lv_goto (tgt := 17) hx hb dX5_isAgreed_13 (by decide) ?_
    exact hret _ _ _ dX5_isAgreed_17 (z_t (h9))
set_option maxHeartbeats 4000000 in
set_option maxRecDepth 100000 in
theorem kX5_firstMeans (l : Launch) (G : zG) (m : Nat → Nat) (σ : Nat → Nat) (V : Nat → Nat → Nat) (ζ : Nat → Nat) (ns : Nat) (x : Nat → Nat) (len : Nat) (B : Nat → Int32) {N : Nat} (e : Nat) (p : Nat) (hO : Ok N σ) (he : e < nE σ) (hp : p < 10) : Met l yX5_firstMeans wsX5_firstMeans (zRm 3 69) (zPc G [.ref (m 0), .int (nI e), .int (nI p)] (va_P G.1 vwCl (wM G m σ V ζ ns x len B))) (zS (.int (nI (mns σ (fS σ e) (fD σ e) p)))) 0 0 (fun _ => False) := by
  refine zmkI (cc := cX5_firstMeans) (maxL := 3) (by decide) rfl (Nat.le_of_ble_eq_true rfl) ?_
  intro pr en st mi ar bl me cd ls Q hx hb hml hown hts hG hP hl hret
  have hown : st.vm.findClass RX5 = some mi.cls := hown
  have hl : lv_has ls 3 [(0, .ref (m 0)), (1, .int (nI e)), (2, .int (nI p))] := hl
  have hP : va_P G.1 vwCl (wM G m σ V ζ ns x len B) st.heap := hP
  have hc := hO.c
  have hs := hO.lS
  have hr := hO.lR
  have hne := hO.lE
  have hfs := hO.lF he
  have hda := fD_lt σ e
  refine lv_aload_n hx hb dX5_firstMeans_0 rfl (lv_at hl 0 rfl) ?_
  refine lv_aload_n hx hb dX5_firstMeans_1 rfl (lv_at hl 0 rfl) ?_
  refine lv_iload_n hx hb dX5_firstMeans_2 rfl (lv_at hl 1 rfl) ?_
  refine zrdV (As := [.int (nI e)]) ⟨hx, hb, hml, hown, hts⟩ (kX5_firstOf l G m σ V ζ ns x len B e (hO) (by omega)) (cwV 1 hts gX5_firstMeans_X5_firstOf rfl rfl rfl (by decide +kernel) ⟨Nat.le_of_ble_eq_true rfl, Nat.le_of_ble_eq_true rfl⟩) hG (va_recv (q0 := 0) (ci := 5) hG.1 hP rfl rfl) (hP) rfl rfl hl.1 dX5_firstMeans_3 (Nat.le_of_ble_eq_true rfl) ⟨Nat.le_of_ble_eq_true rfl, Nat.le_of_ble_eq_true rfl⟩ ?_
  have hf3_0 := hO.lF (show e < nE σ by omega)
  refine lv_aload_n hx hb dX5_firstMeans_6 rfl (lv_at hl 0 rfl) ?_
  refine lv_iload_n hx hb dX5_firstMeans_7 rfl (lv_at hl 1 rfl) ?_
  refine zrdV (As := [.int (nI e)]) ⟨hx, hb, hml, hown, hts⟩ (kX5_sideOf l G m σ V ζ ns x len B e (hO) (by omega)) (cwV 1 hts gX5_firstMeans_X5_sideOf rfl rfl rfl (by decide +kernel) ⟨Nat.le_of_ble_eq_true rfl, Nat.le_of_ble_eq_true rfl⟩) hG (va_recv (q0 := 0) (ci := 5) hG.1 hP rfl rfl) (hP) rfl rfl hl.1 dX5_firstMeans_8 (Nat.le_of_ble_eq_true rfl) ⟨Nat.le_of_ble_eq_true rfl, Nat.le_of_ble_eq_true rfl⟩ ?_
  have hf8_0 := fD_lt σ (e)
  refine lv_iload_n hx hb dX5_firstMeans_11 rfl (lv_at hl 2 rfl) ?_
  refine zrdV (As := [.int (nI (fS σ e)), .int (nI (fD σ e)), .int (nI p)]) ⟨hx, hb, hml, hown, hts⟩ (kX5_meansAt l G m σ V ζ ns x len B (fS σ e) (fD σ e) p (hO) (by omega) (by omega) (by omega)) (cwV 3 hts gX5_firstMeans_X5_meansAt rfl rfl rfl (by decide +kernel) ⟨Nat.le_of_ble_eq_true rfl, Nat.le_of_ble_eq_true rfl⟩) hG (va_recv (q0 := 0) (ci := 5) hG.1 hP rfl rfl) (hP) rfl rfl hl.1 dX5_firstMeans_12 (Nat.le_of_ble_eq_true rfl) ⟨Nat.le_of_ble_eq_true rfl, Nat.le_of_ble_eq_true rfl⟩ ?_
  have hf12_0 := hO.mn (show (fS σ e) < 36 by omega) (show (fD σ e) < 4 by omega) (show p < 10 by omega)
  exact hret _ _ _ dX5_firstMeans_15 (congrArg nI (rfl))
set_option maxHeartbeats 4000000 in
set_option maxRecDepth 100000 in
theorem kX5_secondMeans (l : Launch) (G : zG) (m : Nat → Nat) (σ : Nat → Nat) (V : Nat → Nat → Nat) (ζ : Nat → Nat) (ns : Nat) (x : Nat → Nat) (len : Nat) (B : Nat → Int32) {N : Nat} (e : Nat) (p : Nat) (hO : Ok N σ) (he : e < nE σ) (hp : p < 10) : Met l yX5_secondMeans wsX5_secondMeans (zRm 3 69) (zPc G [.ref (m 0), .int (nI e), .int (nI p)] (va_P G.1 vwCl (wM G m σ V ζ ns x len B))) (zS (.int (nI (mns σ (sS σ e) (sD σ e) p)))) 0 0 (fun _ => False) := by
  refine zmkI (cc := cX5_secondMeans) (maxL := 3) (by decide) rfl (Nat.le_of_ble_eq_true rfl) ?_
  intro pr en st mi ar bl me cd ls Q hx hb hml hown hts hG hP hl hret
  have hown : st.vm.findClass RX5 = some mi.cls := hown
  have hl : lv_has ls 3 [(0, .ref (m 0)), (1, .int (nI e)), (2, .int (nI p))] := hl
  have hP : va_P G.1 vwCl (wM G m σ V ζ ns x len B) st.heap := hP
  have hc := hO.c
  have hs := hO.lS
  have hr := hO.lR
  have hne := hO.lE
  have hfs := hO.lF he
  have hda := fD_lt σ e
  refine lv_aload_n hx hb dX5_secondMeans_0 rfl (lv_at hl 0 rfl) ?_
  refine lv_aload_n hx hb dX5_secondMeans_1 rfl (lv_at hl 0 rfl) ?_
  refine lv_iload_n hx hb dX5_secondMeans_2 rfl (lv_at hl 1 rfl) ?_
  refine zrdV (As := [.int (nI e)]) ⟨hx, hb, hml, hown, hts⟩ (kX5_secondOf l G m σ V ζ ns x len B e (hO) (by omega)) (cwV 1 hts gX5_secondMeans_X5_secondOf rfl rfl rfl (by decide +kernel) ⟨Nat.le_of_ble_eq_true rfl, Nat.le_of_ble_eq_true rfl⟩) hG (va_recv (q0 := 0) (ci := 5) hG.1 hP rfl rfl) (hP) rfl rfl hl.1 dX5_secondMeans_3 (Nat.le_of_ble_eq_true rfl) ⟨Nat.le_of_ble_eq_true rfl, Nat.le_of_ble_eq_true rfl⟩ ?_
  have hf3_0 := hO.lF (show e < nE σ by omega)
  refine lv_aload_n hx hb dX5_secondMeans_6 rfl (lv_at hl 0 rfl) ?_
  refine lv_iload_n hx hb dX5_secondMeans_7 rfl (lv_at hl 1 rfl) ?_
  refine zrdV (As := [.int (nI e)]) ⟨hx, hb, hml, hown, hts⟩ (kX5_sideOf l G m σ V ζ ns x len B e (hO) (by omega)) (cwV 1 hts gX5_secondMeans_X5_sideOf rfl rfl rfl (by decide +kernel) ⟨Nat.le_of_ble_eq_true rfl, Nat.le_of_ble_eq_true rfl⟩) hG (va_recv (q0 := 0) (ci := 5) hG.1 hP rfl rfl) (hP) rfl rfl hl.1 dX5_secondMeans_8 (Nat.le_of_ble_eq_true rfl) ⟨Nat.le_of_ble_eq_true rfl, Nat.le_of_ble_eq_true rfl⟩ ?_
  have hf8_0 := fD_lt σ (e)
  refine lv_iconst (v := nI 1) hx hb dX5_secondMeans_11 (by decide) ?_
  refine lv_icmp_ne (tgt := 19) hx hb dX5_secondMeans_12 (by decide) (fun h12 => ?_) (fun h12 => ?_)
  · skip
    have h12 : ¬ ((fD σ e) = 1) := fun q => h12 ((nI_eq (by omega) (by omega)).mpr q)
    refine lv_iconst (v := nI 0) hx hb dX5_secondMeans_19 (by decide) ?_
    refine lv_iload_n hx hb dX5_secondMeans_20 rfl (lv_at hl 2 rfl) ?_
    refine zrdV (As := [.int (nI (sS σ e)), .int (nI 0), .int (nI p)]) ⟨hx, hb, hml, hown, hts⟩ (kX5_meansAt l G m σ V ζ ns x len B (sS σ e) 0 p (hO) (by omega) (by omega) (by omega)) (cwV 3 hts gX5_secondMeans_X5_meansAt rfl rfl rfl (by decide +kernel) ⟨Nat.le_of_ble_eq_true rfl, Nat.le_of_ble_eq_true rfl⟩) hG (va_recv (q0 := 0) (ci := 5) hG.1 hP rfl rfl) (hP) rfl rfl hl.1 dX5_secondMeans_21 (Nat.le_of_ble_eq_true rfl) ⟨Nat.le_of_ble_eq_true rfl, Nat.le_of_ble_eq_true rfl⟩ ?_
    have hf21_0 := hO.mn (show (sS σ e) < 36 by omega) (show 0 < 4 by omega) (show p < 10 by omega)
    exact hret _ _ _ dX5_secondMeans_24 (congrArg nI (by unfold sD; rw [if_neg (by unfold fD at h12; split at h12 <;> omega)]))
  · skip
    have h12 : (fD σ e) = 1 := (nI_eq (by omega) (by omega)).mp h12
    refine lv_iconst (v := nI 3) hx hb dX5_secondMeans_15 (by decide) ?_
    refine lv_goto (tgt := 20) hx hb dX5_secondMeans_16 (by decide) ?_
    refine lv_iload_n hx hb dX5_secondMeans_20 rfl (lv_at hl 2 rfl) ?_
    refine zrdV (As := [.int (nI (sS σ e)), .int (nI 3), .int (nI p)]) ⟨hx, hb, hml, hown, hts⟩ (kX5_meansAt l G m σ V ζ ns x len B (sS σ e) 3 p (hO) (by omega) (by omega) (by omega)) (cwV 3 hts gX5_secondMeans_X5_meansAt rfl rfl rfl (by decide +kernel) ⟨Nat.le_of_ble_eq_true rfl, Nat.le_of_ble_eq_true rfl⟩) hG (va_recv (q0 := 0) (ci := 5) hG.1 hP rfl rfl) (hP) rfl rfl hl.1 dX5_secondMeans_21 (Nat.le_of_ble_eq_true rfl) ⟨Nat.le_of_ble_eq_true rfl, Nat.le_of_ble_eq_true rfl⟩ ?_
    have hf21_0 := hO.mn (show (sS σ e) < 36 by omega) (show 3 < 4 by omega) (show p < 10 by omega)
    exact hret _ _ _ dX5_secondMeans_24 (congrArg nI (by unfold sD; rw [if_pos (by unfold fD at h12; split at h12 <;> omega)]))
set_option maxHeartbeats 4000000 in
set_option maxRecDepth 100000 in
theorem kX5_reasonAt (l : Launch) (G : zG) (m : Nat → Nat) (σ : Nat → Nat) (V : Nat → Nat → Nat) (ζ : Nat → Nat) (ns : Nat) (x : Nat → Nat) (len : Nat) (B : Nat → Int32) {N : Nat} (e : Nat) (p : Nat) (hO : Ok N σ) (he : e < nE σ) (hp : p < 10) : Met l yX5_reasonAt wsX5_reasonAt (zRm 4 91) (zPc G [.ref (m 0), .int (nI e), .int (nI p)] (va_P G.1 vwCl (wM G m σ V ζ ns x len B))) (zS (.int (nI (rsn σ e p)))) 0 0 (fun _ => False) := by
  refine zmkI (cc := cX5_reasonAt) (maxL := 5) (by decide) rfl (Nat.le_of_ble_eq_true rfl) ?_
  intro pr en st mi ar bl me cd ls Q hx hb hml hown hts hG hP hl hret
  have hown : st.vm.findClass RX5 = some mi.cls := hown
  have hl : lv_has ls 5 [(0, .ref (m 0)), (1, .int (nI e)), (2, .int (nI p))] := hl
  have hP : va_P G.1 vwCl (wM G m σ V ζ ns x len B) st.heap := hP
  have hc := hO.c
  have hs := hO.lS
  have hr := hO.lR
  have hne := hO.lE
  refine lv_aload_n hx hb dX5_reasonAt_0 rfl (lv_at hl 0 rfl) ?_
  refine lv_iload_n hx hb dX5_reasonAt_1 rfl (lv_at hl 1 rfl) ?_
  refine lv_iload_n hx hb dX5_reasonAt_2 rfl (lv_at hl 2 rfl) ?_
  refine zrdV (As := [.int (nI e), .int (nI p)]) ⟨hx, hb, hml, hown, hts⟩ (kX5_firstMeans l G m σ V ζ ns x len B e p (hO) (by omega) (by omega)) (cwV 2 hts gX5_reasonAt_X5_firstMeans rfl rfl rfl (by decide +kernel) ⟨Nat.le_of_ble_eq_true rfl, Nat.le_of_ble_eq_true rfl⟩) hG (va_recv (q0 := 0) (ci := 5) hG.1 hP rfl rfl) (hP) rfl rfl hl.1 dX5_reasonAt_3 (Nat.le_of_ble_eq_true rfl) ⟨Nat.le_of_ble_eq_true rfl, Nat.le_of_ble_eq_true rfl⟩ ?_
  have hf3_0 := hO.mn (show fS σ (e) < 36 by have := hO.lF (show e < nE σ by omega); omega) (fD_lt σ (e)) (show p < 10 by omega)
  refine lv_istore_n (lv' := [(3, .int (nI (mns σ (fS σ e) (fD σ e) p))), (0, .ref (m 0)), (1, .int (nI e)), (2, .int (nI p))]) hx hb dX5_reasonAt_6 rfl hl (by decide) rfl (fun ls hl => ?_)
  refine lv_aload_n hx hb dX5_reasonAt_7 rfl (lv_at hl 1 rfl) ?_
  refine lv_iload_n hx hb dX5_reasonAt_8 rfl (lv_at hl 2 rfl) ?_
  refine lv_iload_n hx hb dX5_reasonAt_9 rfl (lv_at hl 3 rfl) ?_
  refine zrdV (As := [.int (nI e), .int (nI p)]) ⟨hx, hb, hml, hown, hts⟩ (kX5_secondMeans l G m σ V ζ ns x len B e p (hO) (by omega) (by omega)) (cwV 2 hts gX5_reasonAt_X5_secondMeans rfl rfl rfl (by decide +kernel) ⟨Nat.le_of_ble_eq_true rfl, Nat.le_of_ble_eq_true rfl⟩) hG (va_recv (q0 := 0) (ci := 5) hG.1 hP rfl rfl) (hP) rfl rfl hl.1 dX5_reasonAt_10 (Nat.le_of_ble_eq_true rfl) ⟨Nat.le_of_ble_eq_true rfl, Nat.le_of_ble_eq_true rfl⟩ ?_
  have hf10_0 := hO.mn (show sS σ (e) < 36 by have := hO.lF (show e < nE σ by omega); omega) (sD_lt σ (e)) (show p < 10 by omega)
  refine lv_istore (lv' := [(4, .int (nI (mns σ (sS σ e) (sD σ e) p))), (3, .int (nI (mns σ (fS σ e) (fD σ e) p))), (0, .ref (m 0)), (1, .int (nI e)), (2, .int (nI p))]) hx hb dX5_reasonAt_13 hl (by decide) rfl (fun ls hl => ?_)
  refine lv_iload_n hx hb dX5_reasonAt_15 rfl (lv_at hl 1 rfl) ?_
  refine lv_iload hx hb dX5_reasonAt_16 (lv_at hl 0 rfl) ?_
  refine lv_icmp_ne (tgt := 25) hx hb dX5_reasonAt_18 (by decide) (fun h18 => ?_) (fun h18 => ?_)
  · skip
    have h18 : ¬ ((mns σ (fS σ e) (fD σ e) p) = (mns σ (sS σ e) (sD σ e) p)) := fun q => h18 ((nI_eq (by omega) (by omega)).mpr q)
    refine lv_iload_n hx hb dX5_reasonAt_25 rfl (lv_at hl 1 rfl) ?_
    refine lv_bipush (v := nI 10) hx hb dX5_reasonAt_26 (by decide) ?_
    refine lv_icmp_eq (tgt := 38) hx hb dX5_reasonAt_28 (by decide) (fun h28 => ?_) (fun h28 => ?_)
    · skip
      have h28 : (mns σ (fS σ e) (fD σ e) p) = 10 := (nI_eq (by omega) (by omega)).mp h28
      refine lv_iconst (v := nI 1) hx hb dX5_reasonAt_38 (by decide) ?_
      refine lv_goto (tgt := 43) hx hb dX5_reasonAt_39 (by decide) ?_
      exact hret _ _ _ dX5_reasonAt_43 (congrArg nI (by unfold rsn; rw [if_neg h18, if_pos (by first | exact Or.inl h28 | exact Or.inr h35)]))
    · skip
      have h28 : ¬ ((mns σ (fS σ e) (fD σ e) p) = 10) := fun q => h28 ((nI_eq (by omega) (by omega)).mpr q)
      refine lv_iload hx hb dX5_reasonAt_31 (lv_at hl 0 rfl) ?_
      refine lv_bipush (v := nI 10) hx hb dX5_reasonAt_33 (by decide) ?_
      refine lv_icmp_ne (tgt := 42) hx hb dX5_reasonAt_35 (by decide) (fun h35 => ?_) (fun h35 => ?_)
      · skip
        have h35 : ¬ ((mns σ (sS σ e) (sD σ e) p) = 10) := fun q => h35 ((nI_eq (by omega) (by omega)).mpr q)
        refine lv_iconst (v := nI 2) hx hb dX5_reasonAt_42 (by decide) ?_
        exact hret _ _ _ dX5_reasonAt_43 (congrArg nI (by unfold rsn; rw [if_neg h18, if_neg (fun q => q.elim h28 h35)]))
      · skip
        have h35 : (mns σ (sS σ e) (sD σ e) p) = 10 := (nI_eq (by omega) (by omega)).mp h35
        refine lv_iconst (v := nI 1) hx hb dX5_reasonAt_38 (by decide) ?_
        refine lv_goto (tgt := 43) hx hb dX5_reasonAt_39 (by decide) ?_
        exact hret _ _ _ dX5_reasonAt_43 (congrArg nI (by unfold rsn; rw [if_neg h18, if_pos (by first | exact Or.inl h28 | exact Or.inr h35)]))
  · skip
    have h18 : (mns σ (fS σ e) (fD σ e) p) = (mns σ (sS σ e) (sD σ e) p) := (nI_eq (by omega) (by omega)).mp h18
    refine lv_iconst (v := nI 0) hx hb dX5_reasonAt_21 (by decide) ?_
    refine lv_goto (tgt := 43) hx hb dX5_reasonAt_22 (by decide) ?_
    exact hret _ _ _ dX5_reasonAt_43 (congrArg nI (by unfold rsn; rw [if_pos h18]))
set_option maxHeartbeats 4000000 in
set_option maxRecDepth 100000 in
theorem kX5_quarrels (l : Launch) (G : zG) (m : Nat → Nat) (σ : Nat → Nat) (V : Nat → Nat → Nat) (ζ : Nat → Nat) (ns : Nat) (x : Nat → Nat) (len : Nat) (B : Nat → Int32) {N : Nat} (e : Nat) (hO : Ok N σ) (he : e < nE σ) : Met l yX5_quarrels wsX5_quarrels (zRm 5 115) (zPc G [.ref (m 0), .int (nI e)] (va_P G.1 vwCl (wM G m σ V ζ ns x len B))) (zS (.int (nI (qrl σ e)))) 0 0 (fun _ => False) := by
  refine zmkI (cc := cX5_quarrels) (maxL := 4) (by decide) rfl (Nat.le_of_ble_eq_true rfl) ?_
  intro pr en st mi ar bl me cd ls Q hx hb hml hown hts hG hP hl hret
  have hown : st.vm.findClass RX5 = some mi.cls := hown
  have hl : lv_has ls 4 [(0, .ref (m 0)), (1, .int (nI e))] := hl
  have hP : va_P G.1 vwCl (wM G m σ V ζ ns x len B) st.heap := hP
  have hc := hO.c
  have hs := hO.lS
  have hr := hO.lR
  have hne := hO.lE
  refine lv_iconst (v := nI 0) hx hb dX5_quarrels_0 (by decide) ?_
  refine lv_istore_n (lv' := [(2, .int (nI 0)), (0, .ref (m 0)), (1, .int (nI e))]) hx hb dX5_quarrels_1 rfl hl (by decide) rfl (fun ls hl => ?_)
  refine lv_iconst (v := nI 0) hx hb dX5_quarrels_2 (by decide) ?_
  refine lv_istore_n (lv' := [(3, .int (nI 0)), (2, .int (nI 0)), (0, .ref (m 0)), (1, .int (nI e))]) hx hb dX5_quarrels_3 rfl hl (by decide) rfl (fun ls hl => ?_)
  have loop4 : ∀ (n : Nat) (i : Nat) (xx : Nat) (hxx : xx = sm (fun p => if rsn σ e p = 0 then 0 else 1) i) (hi : i ≤ 10) (hn : 10 < i + n) (ls : Array Slot) (hl : lv_has ls 4 [(0, .ref (m 0)), (1, .int (nI e)), (2, .int (nI xx)), (3, .int (nI i))]), W pr l en (zRm 5 115) st mi ar bl me cd st.heap [] 0 0 Q (F0 mi 4 ls []) := by
    intro n
    induction n with
    | zero => intro i xx hxx hi hn ls hl; exfalso; omega
    | succ n ih4 =>
      intro i xx hxx hi hn ls hl
      refine lv_iload_n hx hb dX5_quarrels_4 rfl (lv_at hl 3 rfl) ?_
      refine lv_bipush (v := nI 10) hx hb dX5_quarrels_5 (by decide) ?_
      refine lv_icmp_ge (tgt := 33) hx hb dX5_quarrels_7 (by decide) (fun h7 => ?_) (fun h7 => ?_)
      · skip
        have h7 : 10 ≤ i := (nI_leI (by omega) (by omega)).mp h7
        refine lv_iload_n hx hb dX5_quarrels_33 rfl (lv_at hl 2 rfl) ?_
        exact hret _ _ _ dX5_quarrels_34 (congrArg nI (by obtain rfl : i = 10 := (by omega); exact hxx))
      · skip
        have h7 : ¬ (10 ≤ i) := fun q => h7 ((nI_leI (by omega) (by omega)).mpr q)
        refine lv_iload_n hx hb dX5_quarrels_10 rfl (lv_at hl 2 rfl) ?_
        refine lv_aload_n hx hb dX5_quarrels_11 rfl (lv_at hl 0 rfl) ?_
        refine lv_iload_n hx hb dX5_quarrels_12 rfl (lv_at hl 1 rfl) ?_
        refine lv_iload_n hx hb dX5_quarrels_13 rfl (lv_at hl 3 rfl) ?_
        refine zrdV (As := [.int (nI e), .int (nI i)]) ⟨hx, hb, hml, hown, hts⟩ (kX5_reasonAt l G m σ V ζ ns x len B e i (hO) (by omega) (by omega)) (cwV 2 hts gX5_quarrels_X5_reasonAt rfl rfl rfl (by decide +kernel) ⟨Nat.le_of_ble_eq_true rfl, Nat.le_of_ble_eq_true rfl⟩) hG (va_recv (q0 := 0) (ci := 5) hG.1 hP rfl rfl) (hP) rfl rfl hl.1 dX5_quarrels_14 (Nat.le_of_ble_eq_true rfl) ⟨Nat.le_of_ble_eq_true rfl, Nat.le_of_ble_eq_true rfl⟩ ?_
        have hf14_0 := rsn_le σ (e) (i)
        refine lv_if_le (tgt := 24) hx hb dX5_quarrels_17 (by decide) (fun h17 => ?_) (fun h17 => ?_)
        · skip
          have h17 : (rsn σ e i) = 0 := (z_le0 (by omega)).mp h17
          refine lv_iconst (v := nI 0) hx hb dX5_quarrels_24 (by decide) ?_
          refine lv_iadd hx hb dX5_quarrels_25 ?_
          refine lv_topi (nm_r (e' := nI (xx + 0)) (nI_add _ _) ?_)
          refine lv_istore_n (lv' := [(2, .int (nI (xx + 0))), (0, .ref (m 0)), (1, .int (nI e)), (3, .int (nI i))]) hx hb dX5_quarrels_26 rfl hl (by decide) rfl (fun ls hl => ?_)
          refine lv_iinc (v := nI (i + 1)) (lv' := [(3, .int (nI (i + 1))), (2, .int (nI (xx + 0))), (0, .ref (m 0)), (1, .int (nI e))]) hx hb dX5_quarrels_27 hl (k := 3) rfl (zinc1 _) (by decide) rfl (fun ls hl => ?_)
          refine lv_goto (tgt := 4) hx hb dX5_quarrels_30 (by decide) ?_
          exact ih4 (i + 1) (xx + 0) (by rw [sm, ← hxx]; try (simp [h7, h17] <;> omega)) (by omega) (by omega) _ (lv_sub hl [2, 3, 1, 0] rfl)
        · skip
          have h17 : ¬ ((rsn σ e i) = 0) := fun q => h17 ((z_le0 (by omega)).mpr q)
          have h17 : 0 < (rsn σ e i) := Nat.pos_of_ne_zero h17
          refine lv_iconst (v := nI 1) hx hb dX5_quarrels_20 (by decide) ?_
          refine lv_goto (tgt := 25) hx hb dX5_quarrels_21 (by decide) ?_
          refine lv_iadd hx hb dX5_quarrels_25 ?_
          refine lv_topi (nm_r (e' := nI (xx + 1)) (nI_add _ _) ?_)
          refine lv_istore_n (lv' := [(2, .int (nI (xx + 1))), (0, .ref (m 0)), (1, .int (nI e)), (3, .int (nI i))]) hx hb dX5_quarrels_26 rfl hl (by decide) rfl (fun ls hl => ?_)
          refine lv_iinc (v := nI (i + 1)) (lv' := [(3, .int (nI (i + 1))), (2, .int (nI (xx + 1))), (0, .ref (m 0)), (1, .int (nI e))]) hx hb dX5_quarrels_27 hl (k := 3) rfl (zinc1 _) (by decide) rfl (fun ls hl => ?_)
          refine lv_goto (tgt := 4) hx hb dX5_quarrels_30 (by decide) ?_
          exact ih4 (i + 1) (xx + 1) (by rw [sm, ← hxx]; try (simp [h7, h17] <;> omega)) (by omega) (by omega) _ (lv_sub hl [2, 3, 1, 0] rfl)
  exact loop4 (10 + 1) 0 0 (rfl) (by omega) (by omega) _ (lv_sub hl [2, 3, 1, 0] rfl)
theorem mns_10 {N : Nat} {σ : Nat → Nat} (h : Ok N σ) {k d p : Nat} (hk : k < 36) (hd : d < 4) (hp : p < 10) : mns σ k d p = 10 ↔ sgn σ k d p = 10 := by
  unfold mns
  by_cases q : sgn σ k d p = 10
  · rw [if_pos q]; exact ⟨fun _ => q, fun _ => rfl⟩
  · rw [if_neg q]
    have := h.mg hk (g := sgn σ k d p) (by have := h.sg hk hd hp; omega)
    exact ⟨fun z => by omega, fun z => absurd z q⟩
set_option maxHeartbeats 4000000 in
set_option maxRecDepth 100000 in
theorem kX5_crossings (l : Launch) (G : zG) (m : Nat → Nat) (σ : Nat → Nat) (V : Nat → Nat → Nat) (ζ : Nat → Nat) (ns : Nat) (x : Nat → Nat) (len : Nat) (B : Nat → Int32) {N : Nat} (e : Nat) (hO : Ok N σ) (he : e < nE σ) : Met l yX5_crossings wsX5_crossings (zRm 4 91) (zPc G [.ref (m 0), .int (nI e)] (va_P G.1 vwCl (wM G m σ V ζ ns x len B))) (zS (.int (nI (crs σ e)))) 0 0 (fun _ => False) := by
  refine zmkI (cc := cX5_crossings) (maxL := 4) (by decide) rfl (Nat.le_of_ble_eq_true rfl) ?_
  intro pr en st mi ar bl me cd ls Q hx hb hml hown hts hG hP hl hret
  have hown : st.vm.findClass RX5 = some mi.cls := hown
  have hl : lv_has ls 4 [(0, .ref (m 0)), (1, .int (nI e))] := hl
  have hP : va_P G.1 vwCl (wM G m σ V ζ ns x len B) st.heap := hP
  have hc := hO.c
  have hs := hO.lS
  have hr := hO.lR
  have hne := hO.lE
  have hd1 := fD_lt σ e
  have hd2 := sD_lt σ e
  have hfs := hO.lF he
  refine lv_iconst (v := nI 0) hx hb dX5_crossings_0 (by decide) ?_
  refine lv_istore_n (lv' := [(2, .int (nI 0)), (0, .ref (m 0)), (1, .int (nI e))]) hx hb dX5_crossings_1 rfl hl (by decide) rfl (fun ls hl => ?_)
  refine lv_iconst (v := nI 0) hx hb dX5_crossings_2 (by decide) ?_
  refine lv_istore_n (lv' := [(3, .int (nI 0)), (2, .int (nI 0)), (0, .ref (m 0)), (1, .int (nI e))]) hx hb dX5_crossings_3 rfl hl (by decide) rfl (fun ls hl => ?_)
  have loop4 : ∀ (n : Nat) (i : Nat) (xx : Nat) (hxx : xx = sm (fun p => if sgn σ (fS σ e) (fD σ e) p = 10 ∨ sgn σ (sS σ e) (sD σ e) p = 10 then 0 else 1) i) (hi : i ≤ 10) (hn : 10 < i + n) (ls : Array Slot) (hl : lv_has ls 4 [(0, .ref (m 0)), (1, .int (nI e)), (2, .int (nI xx)), (3, .int (nI i))]), W pr l en (zRm 4 91) st mi ar bl me cd st.heap [] 0 0 Q (F0 mi 4 ls []) := by
    intro n
    induction n with
    | zero => intro i xx hxx hi hn ls hl; exfalso; omega
    | succ n ih4 =>
      intro i xx hxx hi hn ls hl
      refine lv_iload_n hx hb dX5_crossings_4 rfl (lv_at hl 3 rfl) ?_
      refine lv_bipush (v := nI 10) hx hb dX5_crossings_5 (by decide) ?_
      refine lv_icmp_ge (tgt := 46) hx hb dX5_crossings_7 (by decide) (fun h7 => ?_) (fun h7 => ?_)
      · skip
        have h7 : 10 ≤ i := (nI_leI (by omega) (by omega)).mp h7
        refine lv_iload_n hx hb dX5_crossings_46 rfl (lv_at hl 2 rfl) ?_
        exact hret _ _ _ dX5_crossings_47 (congrArg nI (by obtain rfl : i = 10 := (by omega); exact hxx))
      · skip
        have h7 : ¬ (10 ≤ i) := fun q => h7 ((nI_leI (by omega) (by omega)).mpr q)
        refine lv_iload_n hx hb dX5_crossings_10 rfl (lv_at hl 2 rfl) ?_
        refine lv_aload_n hx hb dX5_crossings_11 rfl (lv_at hl 0 rfl) ?_
        refine lv_iload_n hx hb dX5_crossings_12 rfl (lv_at hl 1 rfl) ?_
        refine lv_iload_n hx hb dX5_crossings_13 rfl (lv_at hl 3 rfl) ?_
        refine zrdV (As := [.int (nI e), .int (nI i)]) ⟨hx, hb, hml, hown, hts⟩ (kX5_firstMeans l G m σ V ζ ns x len B e i (hO) (by omega) (by omega)) (cwV 2 hts gX5_crossings_X5_firstMeans rfl rfl rfl (by decide +kernel) ⟨Nat.le_of_ble_eq_true rfl, Nat.le_of_ble_eq_true rfl⟩) hG (va_recv (q0 := 0) (ci := 5) hG.1 hP rfl rfl) (hP) rfl rfl hl.1 dX5_crossings_14 (Nat.le_of_ble_eq_true rfl) ⟨Nat.le_of_ble_eq_true rfl, Nat.le_of_ble_eq_true rfl⟩ ?_
        have hf14_0 := hO.mn (show fS σ (e) < 36 by have := hO.lF (show e < nE σ by omega); omega) (fD_lt σ (e)) (show i < 10 by omega)
        refine lv_bipush (v := nI 10) hx hb dX5_crossings_17 (by decide) ?_
        refine lv_icmp_eq (tgt := 37) hx hb dX5_crossings_19 (by decide) (fun h19 => ?_) (fun h19 => ?_)
        · skip
          have h19 : sgn σ (fS σ e) (fD σ e) i = 10 := ((nI_eq (by omega) (by omega)).trans (mns_10 hO (show fS σ e < 36 by omega) hd1 (show i < 10 by omega))).mp h19
          refine lv_iconst (v := nI 0) hx hb dX5_crossings_37 (by decide) ?_
          refine lv_iadd hx hb dX5_crossings_38 ?_
          refine lv_topi (nm_r (e' := nI (xx + 0)) (nI_add _ _) ?_)
          refine lv_istore_n (lv' := [(2, .int (nI (xx + 0))), (0, .ref (m 0)), (1, .int (nI e)), (3, .int (nI i))]) hx hb dX5_crossings_39 rfl hl (by decide) rfl (fun ls hl => ?_)
          refine lv_iinc (v := nI (i + 1)) (lv' := [(3, .int (nI (i + 1))), (2, .int (nI (xx + 0))), (0, .ref (m 0)), (1, .int (nI e))]) hx hb dX5_crossings_40 hl (k := 3) rfl (zinc1 _) (by decide) rfl (fun ls hl => ?_)
          refine lv_goto (tgt := 4) hx hb dX5_crossings_43 (by decide) ?_
          exact ih4 (i + 1) (xx + 0) (by rw [sm, ← hxx]; try (simp [h7, h19] <;> omega)) (by omega) (by omega) _ (lv_sub hl [2, 3, 1, 0] rfl)
        · skip
          have h19 : ¬ (sgn σ (fS σ e) (fD σ e) i = 10) := fun q => h19 (((nI_eq (by omega) (by omega)).trans (mns_10 hO (show fS σ e < 36 by omega) hd1 (show i < 10 by omega))).mpr q)
          refine lv_aload_n hx hb dX5_crossings_22 rfl (lv_at hl 0 rfl) ?_
          refine lv_iload_n hx hb dX5_crossings_23 rfl (lv_at hl 1 rfl) ?_
          refine lv_iload_n hx hb dX5_crossings_24 rfl (lv_at hl 3 rfl) ?_
          refine zrdV (As := [.int (nI e), .int (nI i)]) ⟨hx, hb, hml, hown, hts⟩ (kX5_secondMeans l G m σ V ζ ns x len B e i (hO) (by omega) (by omega)) (cwV 2 hts gX5_crossings_X5_secondMeans rfl rfl rfl (by decide +kernel) ⟨Nat.le_of_ble_eq_true rfl, Nat.le_of_ble_eq_true rfl⟩) hG (va_recv (q0 := 0) (ci := 5) hG.1 hP rfl rfl) (hP) rfl rfl hl.1 dX5_crossings_25 (Nat.le_of_ble_eq_true rfl) ⟨Nat.le_of_ble_eq_true rfl, Nat.le_of_ble_eq_true rfl⟩ ?_
          have hf25_0 := hO.mn (show sS σ (e) < 36 by have := hO.lF (show e < nE σ by omega); omega) (sD_lt σ (e)) (show i < 10 by omega)
          refine lv_bipush (v := nI 10) hx hb dX5_crossings_28 (by decide) ?_
          refine lv_icmp_eq (tgt := 37) hx hb dX5_crossings_30 (by decide) (fun h30 => ?_) (fun h30 => ?_)
          · skip
            have h30 : sgn σ (sS σ e) (sD σ e) i = 10 := ((nI_eq (by omega) (by omega)).trans (mns_10 hO (show sS σ e < 36 by omega) hd2 (show i < 10 by omega))).mp h30
            refine lv_iconst (v := nI 0) hx hb dX5_crossings_37 (by decide) ?_
            refine lv_iadd hx hb dX5_crossings_38 ?_
            refine lv_topi (nm_r (e' := nI (xx + 0)) (nI_add _ _) ?_)
            refine lv_istore_n (lv' := [(2, .int (nI (xx + 0))), (0, .ref (m 0)), (1, .int (nI e)), (3, .int (nI i))]) hx hb dX5_crossings_39 rfl hl (by decide) rfl (fun ls hl => ?_)
            refine lv_iinc (v := nI (i + 1)) (lv' := [(3, .int (nI (i + 1))), (2, .int (nI (xx + 0))), (0, .ref (m 0)), (1, .int (nI e))]) hx hb dX5_crossings_40 hl (k := 3) rfl (zinc1 _) (by decide) rfl (fun ls hl => ?_)
            refine lv_goto (tgt := 4) hx hb dX5_crossings_43 (by decide) ?_
            exact ih4 (i + 1) (xx + 0) (by rw [sm, ← hxx]; try (simp [h7, h19, h30] <;> omega)) (by omega) (by omega) _ (lv_sub hl [2, 3, 1, 0] rfl)
          · skip
            have h30 : ¬ (sgn σ (sS σ e) (sD σ e) i = 10) := fun q => h30 (((nI_eq (by omega) (by omega)).trans (mns_10 hO (show sS σ e < 36 by omega) hd2 (show i < 10 by omega))).mpr q)
            refine lv_iconst (v := nI 1) hx hb dX5_crossings_33 (by decide) ?_
            refine lv_goto (tgt := 38) hx hb dX5_crossings_34 (by decide) ?_
            refine lv_iadd hx hb dX5_crossings_38 ?_
            refine lv_topi (nm_r (e' := nI (xx + 1)) (nI_add _ _) ?_)
            refine lv_istore_n (lv' := [(2, .int (nI (xx + 1))), (0, .ref (m 0)), (1, .int (nI e)), (3, .int (nI i))]) hx hb dX5_crossings_39 rfl hl (by decide) rfl (fun ls hl => ?_)
            refine lv_iinc (v := nI (i + 1)) (lv' := [(3, .int (nI (i + 1))), (2, .int (nI (xx + 1))), (0, .ref (m 0)), (1, .int (nI e))]) hx hb dX5_crossings_40 hl (k := 3) rfl (zinc1 _) (by decide) rfl (fun ls hl => ?_)
            refine lv_goto (tgt := 4) hx hb dX5_crossings_43 (by decide) ?_
            exact ih4 (i + 1) (xx + 1) (by rw [sm, ← hxx]; try (simp [h7, h19, h30] <;> omega)) (by omega) (by omega) _ (lv_sub hl [2, 3, 1, 0] rfl)
  exact loop4 (10 + 1) 0 0 (rfl) (by omega) (by omega) _ (lv_sub hl [2, 3, 1, 0] rfl)
set_option maxHeartbeats 4000000 in
set_option maxRecDepth 100000 in
theorem kX5_scaleOf (l : Launch) (G : zG) (m : Nat → Nat) (σ : Nat → Nat) (V : Nat → Nat → Nat) (ζ : Nat → Nat) (ns : Nat) (x : Nat → Nat) (len : Nat) (B : Nat → Int32) {N : Nat} (k : Nat) (hO : Ok N σ) (hk : k < 36) : Met l yX5_scaleOf wsX5_scaleOf (zRm 1 22) (zPc G [.ref (m 0), .int (nI k)] (va_P G.1 vwCl (wM G m σ V ζ ns x len B))) (zS (.float (fsc σ k))) 0 0 (fun _ => False) := by
  refine zmkF (cc := cX5_scaleOf) (maxL := 2) (by decide) rfl (Nat.le_of_ble_eq_true rfl) ?_
  intro pr en st mi ar bl me cd ls Q hx hb hml hown hts hG hP hl hret
  have hown : st.vm.findClass RX5 = some mi.cls := hown
  have hl : lv_has ls 2 [(0, .ref (m 0)), (1, .int (nI k))] := hl
  have hP : va_P G.1 vwCl (wM G m σ V ζ ns x len B) st.heap := hP
  have hc98 := hts (.constantFloat RX5 98 (1148846080)) (by decide +kernel)
  have hc := hO.c
  have hs := hO.lS
  have hr := hO.lR
  have hne := hO.lE
  refine lv_aload_n hx hb dX5_scaleOf_0 rfl (lv_at hl 0 rfl) ?_
  refine lv_iload_n hx hb dX5_scaleOf_1 rfl (lv_at hl 1 rfl) ?_
  refine lv_bipush (v := nI 52) hx hb dX5_scaleOf_2 (by decide) ?_
  refine zrdV (As := [.int (nI k), .int (nI 52)]) ⟨hx, hb, hml, hown, hts⟩ (kX5_of l G m σ V ζ ns x len B k 52 (by omega) (by omega) (by omega)) (cwV 2 hts gX5_scaleOf_X5_of rfl rfl rfl (by decide +kernel) ⟨Nat.le_of_ble_eq_true rfl, Nat.le_of_ble_eq_true rfl⟩) hG (va_recv (q0 := 0) (ci := 5) hG.1 hP rfl rfl) (hP) rfl rfl hl.1 dX5_scaleOf_4 (Nat.le_of_ble_eq_true rfl) ⟨Nat.le_of_ble_eq_true rfl, Nat.le_of_ble_eq_true rfl⟩ ?_
  refine lv_i2f hx hb dX5_scaleOf_7 ?_
  refine lv_ldcf hx hb hown hc98 dX5_scaleOf_8 ?_
  refine lv_fdiv hx hb dX5_scaleOf_10 (by have h9 := hO.fs hk; unfold fsc scn at h9; rw [show 116 + 53 * k = 64 + 53 * k + 52 by omega] at h9; exact vf_of_lt (h9.lt (by decide))) ?_
  exact hret _ _ _ dX5_scaleOf_11 (by unfold fsc scn; rw [show 116 + 53 * k = 64 + 53 * k + 52 by omega])
set_option maxHeartbeats 4000000 in
set_option maxRecDepth 100000 in
theorem kX5_ratioOf (l : Launch) (G : zG) (m : Nat → Nat) (σ : Nat → Nat) (V : Nat → Nat → Nat) (ζ : Nat → Nat) (ns : Nat) (x : Nat → Nat) (len : Nat) (B : Nat → Int32) {N : Nat} (e : Nat) (hO : Ok N σ) (he : e < nE σ) : Met l yX5_ratioOf wsX5_ratioOf (zRm 3 63) (zPc G [.ref (m 0), .int (nI e)] (va_P G.1 vwCl (wM G m σ V ζ ns x len B))) (zS (.float (rat σ e))) 0 0 (fun _ => False) := by
  refine zmkF (cc := cX5_ratioOf) (maxL := 2) (by decide) rfl (Nat.le_of_ble_eq_true rfl) ?_
  intro pr en st mi ar bl me cd ls Q hx hb hml hown hts hG hP hl hret
  have hown : st.vm.findClass RX5 = some mi.cls := hown
  have hl : lv_has ls 2 [(0, .ref (m 0)), (1, .int (nI e))] := hl
  have hP : va_P G.1 vwCl (wM G m σ V ζ ns x len B) st.heap := hP
  have hc := hO.c
  have hs := hO.lS
  have hr := hO.lR
  have hne := hO.lE
  have hf := hO.lF he
  refine lv_aload_n hx hb dX5_ratioOf_0 rfl (lv_at hl 0 rfl) ?_
  refine lv_aload_n hx hb dX5_ratioOf_1 rfl (lv_at hl 0 rfl) ?_
  refine lv_iload_n hx hb dX5_ratioOf_2 rfl (lv_at hl 1 rfl) ?_
  refine zrdV (As := [.int (nI e)]) ⟨hx, hb, hml, hown, hts⟩ (kX5_firstOf l G m σ V ζ ns x len B e (hO) (by omega)) (cwV 1 hts gX5_ratioOf_X5_firstOf rfl rfl rfl (by decide +kernel) ⟨Nat.le_of_ble_eq_true rfl, Nat.le_of_ble_eq_true rfl⟩) hG (va_recv (q0 := 0) (ci := 5) hG.1 hP rfl rfl) (hP) rfl rfl hl.1 dX5_ratioOf_3 (Nat.le_of_ble_eq_true rfl) ⟨Nat.le_of_ble_eq_true rfl, Nat.le_of_ble_eq_true rfl⟩ ?_
  have hf3_0 := hO.lF (show e < nE σ by omega)
  refine zrdV (As := [.int (nI (fS σ e))]) ⟨hx, hb, hml, hown, hts⟩ (kX5_scaleOf l G m σ V ζ ns x len B (fS σ e) (hO) (by omega)) (cwV 1 hts gX5_ratioOf_X5_scaleOf rfl rfl rfl (by decide +kernel) ⟨Nat.le_of_ble_eq_true rfl, Nat.le_of_ble_eq_true rfl⟩) hG (va_recv (q0 := 0) (ci := 5) hG.1 hP rfl rfl) (hP) rfl rfl hl.1 dX5_ratioOf_6 (Nat.le_of_ble_eq_true rfl) ⟨Nat.le_of_ble_eq_true rfl, Nat.le_of_ble_eq_true rfl⟩ ?_
  refine lv_aload_n hx hb dX5_ratioOf_9 rfl (lv_at hl 0 rfl) ?_
  refine lv_aload_n hx hb dX5_ratioOf_10 rfl (lv_at hl 0 rfl) ?_
  refine lv_iload_n hx hb dX5_ratioOf_11 rfl (lv_at hl 1 rfl) ?_
  refine zrdV (As := [.int (nI e)]) ⟨hx, hb, hml, hown, hts⟩ (kX5_secondOf l G m σ V ζ ns x len B e (hO) (by omega)) (cwV 1 hts gX5_ratioOf_X5_secondOf rfl rfl rfl (by decide +kernel) ⟨Nat.le_of_ble_eq_true rfl, Nat.le_of_ble_eq_true rfl⟩) hG (va_recv (q0 := 0) (ci := 5) hG.1 hP rfl rfl) (hP) rfl rfl hl.1 dX5_ratioOf_12 (Nat.le_of_ble_eq_true rfl) ⟨Nat.le_of_ble_eq_true rfl, Nat.le_of_ble_eq_true rfl⟩ ?_
  have hf12_0 := hO.lF (show e < nE σ by omega)
  refine zrdV (As := [.int (nI (sS σ e))]) ⟨hx, hb, hml, hown, hts⟩ (kX5_scaleOf l G m σ V ζ ns x len B (sS σ e) (hO) (by omega)) (cwV 1 hts gX5_ratioOf_X5_scaleOf rfl rfl rfl (by decide +kernel) ⟨Nat.le_of_ble_eq_true rfl, Nat.le_of_ble_eq_true rfl⟩) hG (va_recv (q0 := 0) (ci := 5) hG.1 hP rfl rfl) (hP) rfl rfl hl.1 dX5_ratioOf_15 (Nat.le_of_ble_eq_true rfl) ⟨Nat.le_of_ble_eq_true rfl, Nat.le_of_ble_eq_true rfl⟩ ?_
  refine lv_fdiv hx hb dX5_ratioOf_18 (vf_of_lt ((hO.rt he).lt (by decide))) ?_
  exact hret _ _ _ dX5_ratioOf_19 (rfl)
set_option maxHeartbeats 4000000 in
set_option maxRecDepth 100000 in
theorem kX5_fits (l : Launch) (G : zG) (m : Nat → Nat) (σ : Nat → Nat) (V : Nat → Nat → Nat) (ζ : Nat → Nat) (ns : Nat) (x : Nat → Nat) (len : Nat) (B : Nat → Int32) {N : Nat} (e : Nat) (hO : Ok N σ) (he : e < nE σ) : Met l yX5_fits wsX5_fits (zRm 4 84) (zPc G [.ref (m 0), .int (nI e)] (va_P G.1 vwCl (wM G m σ V ζ ns x len B))) (zS (.int (if fitP σ e then 1 else 0))) 0 0 (fun _ => False) := by
  refine zmkZ (cc := cX5_fits) (maxL := 4) (by decide) rfl (Nat.le_of_ble_eq_true rfl) ?_
  intro pr en st mi ar bl me cd ls Q hx hb hml hown hts hG hP hl hret
  have hown : st.vm.findClass RX5 = some mi.cls := hown
  have hl : lv_has ls 4 [(0, .ref (m 0)), (1, .int (nI e))] := hl
  have hP : va_P G.1 vwCl (wM G m σ V ζ ns x len B) st.heap := hP
  have hinX5 : ∀ w ∈ wsX50, w ∈ wsX5_fits := by decide +kernel
  have hf7 := hts (.fieldLink RX5 7 "MapSheetsModel" "s" "[I") (by decide +kernel)
  have hc106 := hts (.constantDouble RX5 106 (4652007308841189376)) (by decide +kernel)
  have hc := hO.c
  have hs := hO.lS
  have hr := hO.lR
  have hne := hO.lE
  have hrt := hO.rt he
  refine lv_aload_n hx hb dX5_fits_0 rfl (lv_at hl 0 rfl) ?_
  refine lv_iload_n hx hb dX5_fits_1 rfl (lv_at hl 1 rfl) ?_
  refine zrdV (As := [.int (nI e)]) ⟨hx, hb, hml, hown, hts⟩ (kX5_ratioOf l G m σ V ζ ns x len B e (hO) (by omega)) (cwV 1 hts gX5_fits_X5_ratioOf rfl rfl rfl (by decide +kernel) ⟨Nat.le_of_ble_eq_true rfl, Nat.le_of_ble_eq_true rfl⟩) hG (va_recv (q0 := 0) (ci := 5) hG.1 hP rfl rfl) (hP) rfl rfl hl.1 dX5_fits_2 (Nat.le_of_ble_eq_true rfl) ⟨Nat.le_of_ble_eq_true rfl, Nat.le_of_ble_eq_true rfl⟩ ?_
  refine lv_f2d hx hb dX5_fits_5 (f2d_ok (vf_lt_val (hrt.lt (by decide)))) ?_
  refine lv_dconst1 hx hb dX5_fits_6 ?_
  refine lv_dsub hx hb dX5_fits_7 (dsub_ok (f2d_val (vf_lt_val (hrt.lt (by decide))))) ?_
  refine lv_dstore_n (lv' := [(2, .double (FP.dsub (FP.f2d (rat σ e)) FP.dconst1)), (0, .ref (m 0)), (1, .int (nI e))]) hx hb dX5_fits_8 rfl hl (by decide) rfl (fun ls hl => ?_)
  refine lv_dload_n hx hb dX5_fits_9 rfl (lv_at hl 0 rfl) ?_
  refine lv_dconst0 hx hb dX5_fits_10 ?_
  refine lv_dcmp hx hb dX5_fits_11 ?_
  refine lv_if_ge (tgt := 20) hx hb dX5_fits_12 (by decide) (fun h12 => ?_) (fun h12 => ?_)
  · skip
    refine lv_dload_n hx hb dX5_fits_20 rfl (lv_at hl 0 rfl) ?_
    refine lv_aload_n hx hb dX5_fits_21 rfl (lv_at hl 1 rfl) ?_
    refine va_get (D := G.1) (ci := 5) (v := .ref (m 1)) (C := RX5) (T := TX5) (N := 7) hx hb hts hinX5 hown hG.1 hP 0 rfl rfl 0 (by decide) hf7 (fun _ h9 => h9) rfl dX5_fits_22 ?_
    refine lv_iconst (v := nI 3) hx hb dX5_fits_25 (by decide) ?_
    refine va_iald hx hb hG.1 hP 1 0 rfl rfl (vp_in_nI (n := 3) (N := 1972) (by omega) (by omega)) dX5_fits_26 ?_
    refine lv_topi (nm_r (e' := nI (σ 3)) (by rw [nI_clamp (by omega)]; exact sF_n (by omega)) ?_)
    refine lv_i2d hx hb dX5_fits_27 ?_
    refine lv_ldc2d hx hb hown hc106 dX5_fits_28 ?_
    refine lv_ddiv hx hb dX5_fits_31 (tol_ok _) ?_
    refine lv_dcmp hx hb dX5_fits_32 ?_
    refine lv_if_gt (tgt := 40) hx hb dX5_fits_33 (by decide) (fun h33 => ?_) (fun h33 => ?_)
    · skip
      refine lv_iconst (v := nI 0) hx hb dX5_fits_40 (by decide) ?_
      exact hret _ _ _ dX5_fits_41 (z_f (by unfold fitP szd off; rw [if_neg (Int32.not_lt.mpr h12)]; exact Int32.not_le.mpr h33))
    · skip
      refine lv_iconst (v := nI 1) hx hb dX5_fits_36 (by decide) ?_
      refine lv_goto (tgt := 41) hx hb dX5_fits_37 (by decide) ?_
      exact hret _ _ _ dX5_fits_41 (z_t (by unfold fitP szd off; rw [if_neg (Int32.not_lt.mpr h12)]; exact Int32.not_lt.mp h33))
  · skip
    refine lv_dload_n hx hb dX5_fits_15 rfl (lv_at hl 0 rfl) ?_
    refine lv_dneg hx hb dX5_fits_16 ?_
    refine lv_goto (tgt := 21) hx hb dX5_fits_17 (by decide) ?_
    refine lv_aload_n hx hb dX5_fits_21 rfl (lv_at hl 1 rfl) ?_
    refine va_get (D := G.1) (ci := 5) (v := .ref (m 1)) (C := RX5) (T := TX5) (N := 7) hx hb hts hinX5 hown hG.1 hP 0 rfl rfl 0 (by decide) hf7 (fun _ h9 => h9) rfl dX5_fits_22 ?_
    refine lv_iconst (v := nI 3) hx hb dX5_fits_25 (by decide) ?_
    refine va_iald hx hb hG.1 hP 1 0 rfl rfl (vp_in_nI (n := 3) (N := 1972) (by omega) (by omega)) dX5_fits_26 ?_
    refine lv_topi (nm_r (e' := nI (σ 3)) (by rw [nI_clamp (by omega)]; exact sF_n (by omega)) ?_)
    refine lv_i2d hx hb dX5_fits_27 ?_
    refine lv_ldc2d hx hb hown hc106 dX5_fits_28 ?_
    refine lv_ddiv hx hb dX5_fits_31 (tol_ok _) ?_
    refine lv_dcmp hx hb dX5_fits_32 ?_
    refine lv_if_gt (tgt := 40) hx hb dX5_fits_33 (by decide) (fun h33 => ?_) (fun h33 => ?_)
    · skip
      refine lv_iconst (v := nI 0) hx hb dX5_fits_40 (by decide) ?_
      exact hret _ _ _ dX5_fits_41 (z_f (by unfold fitP szd off; rw [if_pos (Int32.not_le.mp h12)]; exact Int32.not_le.mpr h33))
    · skip
      refine lv_iconst (v := nI 1) hx hb dX5_fits_36 (by decide) ?_
      refine lv_goto (tgt := 41) hx hb dX5_fits_37 (by decide) ?_
      exact hret _ _ _ dX5_fits_41 (z_t (by unfold fitP szd off; rw [if_pos (Int32.not_le.mp h12)]; exact Int32.not_lt.mp h33))
set_option maxHeartbeats 4000000 in
set_option maxRecDepth 100000 in
theorem kX5_isPlace (l : Launch) (G : zG) (m : Nat → Nat) (σ : Nat → Nat) (V : Nat → Nat → Nat) (ζ : Nat → Nat) (ns : Nat) (x : Nat → Nat) (len : Nat) (B : Nat → Int32) (u : Int32) (d : Int32) (p : Int32)  : Met l yX5_isPlace wsX5_isPlace (zRm 2 41) (zPc G [.ref (m 0), .int u, .int d, .int p] (va_P G.1 vwCl (wM G m σ V ζ ns x len B))) (zS (.int (if (0 ≤ u ∧ u < nI (nS σ)) ∧ (nI 0 ≤ d ∧ d ≤ nI 3) ∧ (nI 0 ≤ p ∧ p ≤ nI 9) then 1 else 0))) 0 0 (fun _ => False) := by
  refine zmkZ (cc := cX5_isPlace) (maxL := 4) (by decide) rfl (Nat.le_of_ble_eq_true rfl) ?_
  intro pr en st mi ar bl me cd ls Q hx hb hml hown hts hG hP hl hret
  have hown : st.vm.findClass RX5 = some mi.cls := hown
  have hl : lv_has ls 4 [(0, .ref (m 0)), (1, .int u), (2, .int d), (3, .int p)] := hl
  have hP : va_P G.1 vwCl (wM G m σ V ζ ns x len B) st.heap := hP
  refine lv_aload_n hx hb dX5_isPlace_0 rfl (lv_at hl 0 rfl) ?_
  refine lv_iload_n hx hb dX5_isPlace_1 rfl (lv_at hl 1 rfl) ?_
  refine zrdV (As := [.int u]) ⟨hx, hb, hml, hown, hts⟩ (kX5_isSheet l G m σ V ζ ns x len B u) (cwV 1 hts gX5_isPlace_X5_isSheet rfl rfl rfl (by decide +kernel) ⟨Nat.le_of_ble_eq_true rfl, Nat.le_of_ble_eq_true rfl⟩) hG (va_recv (q0 := 0) (ci := 5) hG.1 hP rfl rfl) (hP) rfl rfl hl.1 dX5_isPlace_2 (Nat.le_of_ble_eq_true rfl) ⟨Nat.le_of_ble_eq_true rfl, Nat.le_of_ble_eq_true rfl⟩ ?_
  refine lv_if_eq (tgt := 31) hx hb dX5_isPlace_5 (by decide) (fun h5 => ?_) (fun h5 => ?_)
  · skip
    have h5 : ¬ (0 ≤ u ∧ u < nI (nS σ)) := (z_b0).mp h5
    refine lv_iconst (v := nI 0) hx hb dX5_isPlace_31 (by decide) ?_
    exact hret _ _ _ dX5_isPlace_32 (z_f (by first | exact ⟨h5, h14, h24⟩ | exact fun q => h5 q.1 | exact fun q => h14 q.2.1 | exact fun q => h24 q.2.2))
  · skip
    have h5 : ¬ (¬ (0 ≤ u ∧ u < nI (nS σ))) := fun q => h5 ((z_b0).mpr q)
    have h5 : 0 ≤ u ∧ u < nI (nS σ) := Decidable.of_not_not h5
    refine lv_iload_n hx hb dX5_isPlace_8 rfl (lv_at hl 2 rfl) ?_
    refine lv_iconst (v := nI 0) hx hb dX5_isPlace_9 (by decide) ?_
    refine lv_iconst (v := nI 3) hx hb dX5_isPlace_10 (by decide) ?_
    refine zrdS (As := [.int d, .int (nI 0), .int (nI 3)]) ⟨hx, hb, hml, hown, hts⟩ (kX5_in l G  d (nI 0) (nI 3)) (va_cwS 3 hts gX5_isPlace_X5_in rfl rfl rfl (by decide +kernel) ⟨Nat.le_of_ble_eq_true rfl, Nat.le_of_ble_eq_true rfl⟩) hG (trivial) rfl rfl hl.1 dX5_isPlace_11 (Nat.le_of_ble_eq_true rfl) ⟨Nat.le_of_ble_eq_true rfl, Nat.le_of_ble_eq_true rfl⟩ ?_
    refine lv_if_eq (tgt := 31) hx hb dX5_isPlace_14 (by decide) (fun h14 => ?_) (fun h14 => ?_)
    · skip
      have h14 : ¬ ((nI 0) ≤ d ∧ d ≤ (nI 3)) := (z_b0).mp h14
      refine lv_iconst (v := nI 0) hx hb dX5_isPlace_31 (by decide) ?_
      exact hret _ _ _ dX5_isPlace_32 (z_f (by first | exact ⟨h5, h14, h24⟩ | exact fun q => h5 q.1 | exact fun q => h14 q.2.1 | exact fun q => h24 q.2.2))
    · skip
      have h14 : ¬ (¬ ((nI 0) ≤ d ∧ d ≤ (nI 3))) := fun q => h14 ((z_b0).mpr q)
      have h14 : (nI 0) ≤ d ∧ d ≤ (nI 3) := Decidable.of_not_not h14
      refine lv_iload_n hx hb dX5_isPlace_17 rfl (lv_at hl 3 rfl) ?_
      refine lv_iconst (v := nI 0) hx hb dX5_isPlace_18 (by decide) ?_
      refine lv_bipush (v := nI 9) hx hb dX5_isPlace_19 (by decide) ?_
      refine zrdS (As := [.int p, .int (nI 0), .int (nI 9)]) ⟨hx, hb, hml, hown, hts⟩ (kX5_in l G  p (nI 0) (nI 9)) (va_cwS 3 hts gX5_isPlace_X5_in rfl rfl rfl (by decide +kernel) ⟨Nat.le_of_ble_eq_true rfl, Nat.le_of_ble_eq_true rfl⟩) hG (trivial) rfl rfl hl.1 dX5_isPlace_21 (Nat.le_of_ble_eq_true rfl) ⟨Nat.le_of_ble_eq_true rfl, Nat.le_of_ble_eq_true rfl⟩ ?_
      refine lv_if_eq (tgt := 31) hx hb dX5_isPlace_24 (by decide) (fun h24 => ?_) (fun h24 => ?_)
      · skip
        have h24 : ¬ ((nI 0) ≤ p ∧ p ≤ (nI 9)) := (z_b0).mp h24
        refine lv_iconst (v := nI 0) hx hb dX5_isPlace_31 (by decide) ?_
        exact hret _ _ _ dX5_isPlace_32 (z_f (by first | exact ⟨h5, h14, h24⟩ | exact fun q => h5 q.1 | exact fun q => h14 q.2.1 | exact fun q => h24 q.2.2))
      · skip
        have h24 : ¬ (¬ ((nI 0) ≤ p ∧ p ≤ (nI 9))) := fun q => h24 ((z_b0).mpr q)
        have h24 : (nI 0) ≤ p ∧ p ≤ (nI 9) := Decidable.of_not_not h24
        refine lv_iconst (v := nI 1) hx hb dX5_isPlace_27 (by decide) ?_
        refine lv_goto (tgt := 32) hx hb dX5_isPlace_28 (by decide) ?_
        exact hret _ _ _ dX5_isPlace_32 (z_t (by first | exact ⟨h5, h14, h24⟩ | exact fun q => h5 q.1 | exact fun q => h14 q.2.1 | exact fun q => h24 q.2.2))
set_option maxHeartbeats 4000000 in
set_option maxRecDepth 100000 in
theorem kX5_edgesOf_0 (l : Launch) (G : zG) (m : Nat → Nat) (σ : Nat → Nat) (V : Nat → Nat → Nat) (ζ : Nat → Nat) (ns : Nat) (x : Nat → Nat) (len : Nat) (B : Nat → Int32) {N : Nat} (k : Nat) (hO : Ok N σ) (hk : k < nS σ) : Met l yX5_edgesOf wsX5_edgesOf (zRm 2 45) (zPc G [.ref (m 0), .int (nI k), .int (nI 0)] (va_P G.1 vwCl (wM G m σ V ζ ns x len B))) (zS (.int (nI (nEd σ k)))) 0 0 (fun _ => False) := by
  refine zmkI (cc := cX5_edgesOf) (maxL := 6) (by decide) rfl (Nat.le_of_ble_eq_true rfl) ?_
  intro pr en st mi ar bl me cd ls Q hx hb hml hown hts hG hP hl hret
  have hown : st.vm.findClass RX5 = some mi.cls := hown
  have hl : lv_has ls 6 [(0, .ref (m 0)), (1, .int (nI k)), (2, .int (nI 0))] := hl
  have hP : va_P G.1 vwCl (wM G m σ V ζ ns x len B) st.heap := hP
  have hc := hO.c
  have hs := hO.lS
  have hr := hO.lR
  have hne := hO.lE
  refine lv_iconst (v := nI 0) hx hb dX5_edgesOf_0 (by decide) ?_
  refine lv_istore_n (lv' := [(3, .int (nI 0)), (0, .ref (m 0)), (1, .int (nI k)), (2, .int (nI 0))]) hx hb dX5_edgesOf_1 rfl hl (by decide) rfl (fun ls hl => ?_)
  refine lv_iconst (v := nI 0) hx hb dX5_edgesOf_2 (by decide) ?_
  refine lv_istore (lv' := [(4, .int (nI 0)), (3, .int (nI 0)), (0, .ref (m 0)), (1, .int (nI k)), (2, .int (nI 0))]) hx hb dX5_edgesOf_3 hl (by decide) rfl (fun ls hl => ?_)
  have loop5 : ∀ (n : Nat) (i : Nat) (xx : Nat) (hxx : xx = sm (fun d => if eO σ k d = 60 then 0 else 1) i) (hi : i ≤ 4) (hn : 4 < i + n) (ls : Array Slot) (hl : lv_has ls 6 [(0, .ref (m 0)), (1, .int (nI k)), (2, .int (nI 0)), (3, .int (nI xx)), (4, .int (nI i))]), W pr l en (zRm 2 45) st mi ar bl me cd st.heap [] 0 0 Q (F0 mi 5 ls []) := by
    intro n
    induction n with
    | zero => intro i xx hxx hi hn ls hl; exfalso; omega
    | succ n ih5 =>
      intro i xx hxx hi hn ls hl
      refine lv_iload hx hb dX5_edgesOf_5 (lv_at hl 4 rfl) ?_
      refine lv_iconst (v := nI 4) hx hb dX5_edgesOf_7 (by decide) ?_
      refine lv_icmp_ge (tgt := 54) hx hb dX5_edgesOf_8 (by decide) (fun h8 => ?_) (fun h8 => ?_)
      · skip
        have h8 : 4 ≤ i := (nI_leI (by omega) (by omega)).mp h8
        refine lv_iload_n hx hb dX5_edgesOf_54 rfl (lv_at hl 3 rfl) ?_
        exact hret _ _ _ dX5_edgesOf_55 (congrArg nI (by obtain rfl : i = 4 := (by omega); exact hxx))
      · skip
        have h8 : ¬ (4 ≤ i) := fun q => h8 ((nI_leI (by omega) (by omega)).mpr q)
        refine lv_aload_n hx hb dX5_edgesOf_11 rfl (lv_at hl 0 rfl) ?_
        refine lv_iload_n hx hb dX5_edgesOf_12 rfl (lv_at hl 1 rfl) ?_
        refine lv_iload hx hb dX5_edgesOf_13 (lv_at hl 4 rfl) ?_
        refine zrdV (As := [.int (nI k), .int (nI i)]) ⟨hx, hb, hml, hown, hts⟩ (kX5_edgeOf l G m σ V ζ ns x len B k i (hO) (by omega) (by omega)) (cwV 2 hts gX5_edgesOf_X5_edgeOf rfl rfl rfl (by decide +kernel) ⟨Nat.le_of_ble_eq_true rfl, Nat.le_of_ble_eq_true rfl⟩) hG (va_recv (q0 := 0) (ci := 5) hG.1 hP rfl rfl) (hP) rfl rfl hl.1 dX5_edgesOf_15 (Nat.le_of_ble_eq_true rfl) ⟨Nat.le_of_ble_eq_true rfl, Nat.le_of_ble_eq_true rfl⟩ ?_
        have hf15_0 := hO.lO2 (show k < nS σ by omega) (show i < 4 by omega)
        refine lv_istore (lv' := [(5, .int (zc 60 (eO σ k i))), (0, .ref (m 0)), (1, .int (nI k)), (2, .int (nI 0)), (3, .int (nI xx)), (4, .int (nI i))]) hx hb dX5_edgesOf_18 hl (by decide) rfl (fun ls hl => ?_)
        refine lv_iload_n hx hb dX5_edgesOf_20 rfl (lv_at hl 4 rfl) ?_
        refine lv_iload hx hb dX5_edgesOf_21 (lv_at hl 0 rfl) ?_
        refine lv_bipush (v := (-4)) hx hb dX5_edgesOf_23 (by decide) ?_
        refine lv_icmp_eq (tgt := 45) hx hb dX5_edgesOf_25 (by decide) (fun h25 => ?_) (fun h25 => ?_)
        · skip
          have h25 : eO σ k i = 60 := (zc_m4 (by omega)).mp h25
          refine lv_iconst (v := nI 0) hx hb dX5_edgesOf_45 (by decide) ?_
          refine lv_iadd hx hb dX5_edgesOf_46 ?_
          refine lv_topi (nm_r (e' := nI (xx + 0)) (nI_add _ _) ?_)
          refine lv_istore_n (lv' := [(3, .int (nI (xx + 0))), (5, .int (zc 60 (eO σ k i))), (0, .ref (m 0)), (1, .int (nI k)), (2, .int (nI 0)), (4, .int (nI i))]) hx hb dX5_edgesOf_47 rfl hl (by decide) rfl (fun ls hl => ?_)
          refine lv_iinc (v := nI (i + 1)) (lv' := [(4, .int (nI (i + 1))), (3, .int (nI (xx + 0))), (5, .int (zc 60 (eO σ k i))), (0, .ref (m 0)), (1, .int (nI k)), (2, .int (nI 0))]) hx hb dX5_edgesOf_48 hl (k := 5) rfl (zinc1 _) (by decide) rfl (fun ls hl => ?_)
          refine lv_goto (tgt := 5) hx hb dX5_edgesOf_51 (by decide) ?_
          exact ih5 (i + 1) (xx + 0) (by rw [sm, ← hxx]; try (simp [h8, h25] <;> omega)) (by omega) (by omega) _ (lv_sub hl [3, 4, 5, 1, 0] rfl)
        · skip
          have h25 : ¬ (eO σ k i = 60) := fun q => h25 ((zc_m4 (by omega)).mpr q)
          refine lv_iload_n hx hb dX5_edgesOf_28 rfl (lv_at hl 3 rfl) ?_
          refine lv_if_eq (tgt := 41) hx hb dX5_edgesOf_29 (by decide) (fun h29 => ?_) (fun h29 => ?_)
          · skip
            have h29 : 0 = 0 := (z_eq0 (by omega)).mp h29
            refine lv_iconst (v := nI 1) hx hb dX5_edgesOf_41 (by decide) ?_
            refine lv_goto (tgt := 46) hx hb dX5_edgesOf_42 (by decide) ?_
            refine lv_iadd hx hb dX5_edgesOf_46 ?_
            refine lv_topi (nm_r (e' := nI (xx + 1)) (nI_add _ _) ?_)
            refine lv_istore_n (lv' := [(3, .int (nI (xx + 1))), (5, .int (zc 60 (eO σ k i))), (0, .ref (m 0)), (1, .int (nI k)), (2, .int (nI 0)), (4, .int (nI i))]) hx hb dX5_edgesOf_47 rfl hl (by decide) rfl (fun ls hl => ?_)
            refine lv_iinc (v := nI (i + 1)) (lv' := [(4, .int (nI (i + 1))), (3, .int (nI (xx + 1))), (5, .int (zc 60 (eO σ k i))), (0, .ref (m 0)), (1, .int (nI k)), (2, .int (nI 0))]) hx hb dX5_edgesOf_48 hl (k := 5) rfl (zinc1 _) (by decide) rfl (fun ls hl => ?_)
            refine lv_goto (tgt := 5) hx hb dX5_edgesOf_51 (by decide) ?_
            exact ih5 (i + 1) (xx + 1) (by rw [sm, ← hxx]; try (simp [h8, h25, h29] <;> omega)) (by omega) (by omega) _ (lv_sub hl [3, 4, 5, 1, 0] rfl)
          · skip
            have h29 : ¬ (0 = 0) := fun q => h29 ((z_eq0 (by omega)).mpr q)
            have h29 : 0 < 0 := Nat.pos_of_ne_zero h29
            exfalso; omega
  exact loop5 (4 + 1) 0 0 (rfl) (by omega) (by omega) _ (lv_sub hl [2, 3, 4, 1, 0] rfl)
set_option maxHeartbeats 4000000 in
set_option maxRecDepth 100000 in
theorem kX5_edgesOf_1 (l : Launch) (G : zG) (m : Nat → Nat) (σ : Nat → Nat) (V : Nat → Nat → Nat) (ζ : Nat → Nat) (ns : Nat) (x : Nat → Nat) (len : Nat) (B : Nat → Int32) {N : Nat} (k : Nat) (hO : Ok N σ) (hk : k < nS σ) : Met l yX5_edgesOf wsX5_edgesOf (zRm 2 45) (zPc G [.ref (m 0), .int (nI k), .int (nI 1)] (va_P G.1 vwCl (wM G m σ V ζ ns x len B))) (zS (.int (nI (nAd σ k)))) 0 0 (fun _ => False) := by
  refine zmkI (cc := cX5_edgesOf) (maxL := 6) (by decide) rfl (Nat.le_of_ble_eq_true rfl) ?_
  intro pr en st mi ar bl me cd ls Q hx hb hml hown hts hG hP hl hret
  have hown : st.vm.findClass RX5 = some mi.cls := hown
  have hl : lv_has ls 6 [(0, .ref (m 0)), (1, .int (nI k)), (2, .int (nI 1))] := hl
  have hP : va_P G.1 vwCl (wM G m σ V ζ ns x len B) st.heap := hP
  have hc := hO.c
  have hs := hO.lS
  have hr := hO.lR
  have hne := hO.lE
  refine lv_iconst (v := nI 0) hx hb dX5_edgesOf_0 (by decide) ?_
  refine lv_istore_n (lv' := [(3, .int (nI 0)), (0, .ref (m 0)), (1, .int (nI k)), (2, .int (nI 1))]) hx hb dX5_edgesOf_1 rfl hl (by decide) rfl (fun ls hl => ?_)
  refine lv_iconst (v := nI 0) hx hb dX5_edgesOf_2 (by decide) ?_
  refine lv_istore (lv' := [(4, .int (nI 0)), (3, .int (nI 0)), (0, .ref (m 0)), (1, .int (nI k)), (2, .int (nI 1))]) hx hb dX5_edgesOf_3 hl (by decide) rfl (fun ls hl => ?_)
  have loop5 : ∀ (n : Nat) (i : Nat) (xx : Nat) (hxx : xx = sm (fun d => if agF σ (eO σ k d) = 1 then 1 else 0) i) (hi : i ≤ 4) (hn : 4 < i + n) (ls : Array Slot) (hl : lv_has ls 6 [(0, .ref (m 0)), (1, .int (nI k)), (2, .int (nI 1)), (3, .int (nI xx)), (4, .int (nI i))]), W pr l en (zRm 2 45) st mi ar bl me cd st.heap [] 0 0 Q (F0 mi 5 ls []) := by
    intro n
    induction n with
    | zero => intro i xx hxx hi hn ls hl; exfalso; omega
    | succ n ih5 =>
      intro i xx hxx hi hn ls hl
      refine lv_iload hx hb dX5_edgesOf_5 (lv_at hl 4 rfl) ?_
      refine lv_iconst (v := nI 4) hx hb dX5_edgesOf_7 (by decide) ?_
      refine lv_icmp_ge (tgt := 54) hx hb dX5_edgesOf_8 (by decide) (fun h8 => ?_) (fun h8 => ?_)
      · skip
        have h8 : 4 ≤ i := (nI_leI (by omega) (by omega)).mp h8
        refine lv_iload_n hx hb dX5_edgesOf_54 rfl (lv_at hl 3 rfl) ?_
        exact hret _ _ _ dX5_edgesOf_55 (congrArg nI (by obtain rfl : i = 4 := (by omega); exact hxx))
      · skip
        have h8 : ¬ (4 ≤ i) := fun q => h8 ((nI_leI (by omega) (by omega)).mpr q)
        refine lv_aload_n hx hb dX5_edgesOf_11 rfl (lv_at hl 0 rfl) ?_
        refine lv_iload_n hx hb dX5_edgesOf_12 rfl (lv_at hl 1 rfl) ?_
        refine lv_iload hx hb dX5_edgesOf_13 (lv_at hl 4 rfl) ?_
        refine zrdV (As := [.int (nI k), .int (nI i)]) ⟨hx, hb, hml, hown, hts⟩ (kX5_edgeOf l G m σ V ζ ns x len B k i (hO) (by omega) (by omega)) (cwV 2 hts gX5_edgesOf_X5_edgeOf rfl rfl rfl (by decide +kernel) ⟨Nat.le_of_ble_eq_true rfl, Nat.le_of_ble_eq_true rfl⟩) hG (va_recv (q0 := 0) (ci := 5) hG.1 hP rfl rfl) (hP) rfl rfl hl.1 dX5_edgesOf_15 (Nat.le_of_ble_eq_true rfl) ⟨Nat.le_of_ble_eq_true rfl, Nat.le_of_ble_eq_true rfl⟩ ?_
        have hf15_0 := hO.lO2 (show k < nS σ by omega) (show i < 4 by omega)
        refine lv_istore (lv' := [(5, .int (zc 60 (eO σ k i))), (0, .ref (m 0)), (1, .int (nI k)), (2, .int (nI 1)), (3, .int (nI xx)), (4, .int (nI i))]) hx hb dX5_edgesOf_18 hl (by decide) rfl (fun ls hl => ?_)
        refine lv_iload_n hx hb dX5_edgesOf_20 rfl (lv_at hl 4 rfl) ?_
        refine lv_iload hx hb dX5_edgesOf_21 (lv_at hl 0 rfl) ?_
        refine lv_bipush (v := (-4)) hx hb dX5_edgesOf_23 (by decide) ?_
        refine lv_icmp_eq (tgt := 45) hx hb dX5_edgesOf_25 (by decide) (fun h25 => ?_) (fun h25 => ?_)
        · skip
          have h25 : eO σ k i = 60 := (zc_m4 (by omega)).mp h25
          refine lv_iconst (v := nI 0) hx hb dX5_edgesOf_45 (by decide) ?_
          refine lv_iadd hx hb dX5_edgesOf_46 ?_
          refine lv_topi (nm_r (e' := nI (xx + 0)) (nI_add _ _) ?_)
          refine lv_istore_n (lv' := [(3, .int (nI (xx + 0))), (5, .int (zc 60 (eO σ k i))), (0, .ref (m 0)), (1, .int (nI k)), (2, .int (nI 1)), (4, .int (nI i))]) hx hb dX5_edgesOf_47 rfl hl (by decide) rfl (fun ls hl => ?_)
          refine lv_iinc (v := nI (i + 1)) (lv' := [(4, .int (nI (i + 1))), (3, .int (nI (xx + 0))), (5, .int (zc 60 (eO σ k i))), (0, .ref (m 0)), (1, .int (nI k)), (2, .int (nI 1))]) hx hb dX5_edgesOf_48 hl (k := 5) rfl (zinc1 _) (by decide) rfl (fun ls hl => ?_)
          refine lv_goto (tgt := 5) hx hb dX5_edgesOf_51 (by decide) ?_
          exact ih5 (i + 1) (xx + 0) (by rw [sm, ← hxx]; rw [h25, agF_60]; simp) (by omega) (by omega) _ (lv_sub hl [3, 4, 5, 1, 0] rfl)
        · skip
          have h25 : ¬ (eO σ k i = 60) := fun q => h25 ((zc_m4 (by omega)).mpr q)
          refine lv_iload_n hx hb dX5_edgesOf_28 rfl (lv_at hl 3 rfl) ?_
          refine lv_if_eq (tgt := 41) hx hb dX5_edgesOf_29 (by decide) (fun h29 => ?_) (fun h29 => ?_)
          · skip
            have h29 : 1 = 0 := (z_eq0 (by omega)).mp h29
            exfalso; omega
          · skip
            have h29 : ¬ (1 = 0) := fun q => h29 ((z_eq0 (by omega)).mpr q)
            have h29 : 0 < 1 := Nat.pos_of_ne_zero h29
            have hEn := (hO.lO hk (show i < 4 by omega)).resolve_left h25
            rw [show zc 60 (eO σ k i) = nI (eO σ k i) from zc_n h25] at hl
            refine lv_aload_n hx hb dX5_edgesOf_32 rfl (lv_at hl 1 rfl) ?_
            refine lv_iload hx hb dX5_edgesOf_33 (lv_at hl 0 rfl) ?_
            refine zrdV (As := [.int (nI (eO σ k i))]) ⟨hx, hb, hml, hown, hts⟩ (kX5_isAgreed l G m σ V ζ ns x len B (eO σ k i) (hO) (by omega)) (cwV 1 hts gX5_edgesOf_X5_isAgreed rfl rfl rfl (by decide +kernel) ⟨Nat.le_of_ble_eq_true rfl, Nat.le_of_ble_eq_true rfl⟩) hG (va_recv (q0 := 0) (ci := 5) hG.1 hP rfl rfl) (hP) rfl rfl hl.1 dX5_edgesOf_35 (Nat.le_of_ble_eq_true rfl) ⟨Nat.le_of_ble_eq_true rfl, Nat.le_of_ble_eq_true rfl⟩ ?_
            refine lv_if_eq (tgt := 45) hx hb dX5_edgesOf_38 (by decide) (fun h38 => ?_) (fun h38 => ?_)
            · skip
              have h38 : ¬ (agn σ (eO σ k i) = 1) := (z_b0).mp h38
              refine lv_iconst (v := nI 0) hx hb dX5_edgesOf_45 (by decide) ?_
              refine lv_iadd hx hb dX5_edgesOf_46 ?_
              refine lv_topi (nm_r (e' := nI (xx + 0)) (nI_add _ _) ?_)
              refine lv_istore_n (lv' := [(3, .int (nI (xx + 0))), (5, .int (nI (eO σ k i))), (0, .ref (m 0)), (1, .int (nI k)), (2, .int (nI 1)), (4, .int (nI i))]) hx hb dX5_edgesOf_47 rfl hl (by decide) rfl (fun ls hl => ?_)
              refine lv_iinc (v := nI (i + 1)) (lv' := [(4, .int (nI (i + 1))), (3, .int (nI (xx + 0))), (5, .int (nI (eO σ k i))), (0, .ref (m 0)), (1, .int (nI k)), (2, .int (nI 1))]) hx hb dX5_edgesOf_48 hl (k := 5) rfl (zinc1 _) (by decide) rfl (fun ls hl => ?_)
              refine lv_goto (tgt := 5) hx hb dX5_edgesOf_51 (by decide) ?_
              exact ih5 (i + 1) (xx + 0) (by rw [sm, ← hxx]; rw [agF_at (by omega)]; simp [h38]) (by omega) (by omega) _ (lv_sub hl [3, 4, 5, 1, 0] rfl)
            · skip
              have h38 : ¬ (¬ (agn σ (eO σ k i) = 1)) := fun q => h38 ((z_b0).mpr q)
              have h38 : agn σ (eO σ k i) = 1 := Decidable.of_not_not h38
              refine lv_iconst (v := nI 1) hx hb dX5_edgesOf_41 (by decide) ?_
              refine lv_goto (tgt := 46) hx hb dX5_edgesOf_42 (by decide) ?_
              refine lv_iadd hx hb dX5_edgesOf_46 ?_
              refine lv_topi (nm_r (e' := nI (xx + 1)) (nI_add _ _) ?_)
              refine lv_istore_n (lv' := [(3, .int (nI (xx + 1))), (5, .int (nI (eO σ k i))), (0, .ref (m 0)), (1, .int (nI k)), (2, .int (nI 1)), (4, .int (nI i))]) hx hb dX5_edgesOf_47 rfl hl (by decide) rfl (fun ls hl => ?_)
              refine lv_iinc (v := nI (i + 1)) (lv' := [(4, .int (nI (i + 1))), (3, .int (nI (xx + 1))), (5, .int (nI (eO σ k i))), (0, .ref (m 0)), (1, .int (nI k)), (2, .int (nI 1))]) hx hb dX5_edgesOf_48 hl (k := 5) rfl (zinc1 _) (by decide) rfl (fun ls hl => ?_)
              refine lv_goto (tgt := 5) hx hb dX5_edgesOf_51 (by decide) ?_
              exact ih5 (i + 1) (xx + 1) (by rw [sm, ← hxx]; rw [agF_at (by omega)]; simp [h38]) (by omega) (by omega) _ (lv_sub hl [3, 4, 5, 1, 0] rfl)
  exact loop5 (4 + 1) 0 0 (rfl) (by omega) (by omega) _ (lv_sub hl [2, 3, 4, 1, 0] rfl)
set_option maxHeartbeats 4000000 in
set_option maxRecDepth 100000 in
theorem kX5_signsOf (l : Launch) (G : zG) (m : Nat → Nat) (σ : Nat → Nat) (V : Nat → Nat → Nat) (ζ : Nat → Nat) (ns : Nat) (x : Nat → Nat) (len : Nat) (B : Nat → Int32) {N : Nat} (k : Nat) (hO : Ok N σ) (hk : k < 36) : Met l yX5_signsOf wsX5_signsOf (zRm 1 22) (zPc G [.ref (m 0), .int (nI k)] (va_P G.1 vwCl (wM G m σ V ζ ns x len B))) (zS (.int (nI (sgs σ k)))) 0 0 (fun _ => False) := by
  refine zmkI (cc := cX5_signsOf) (maxL := 4) (by decide) rfl (Nat.le_of_ble_eq_true rfl) ?_
  intro pr en st mi ar bl me cd ls Q hx hb hml hown hts hG hP hl hret
  have hown : st.vm.findClass RX5 = some mi.cls := hown
  have hl : lv_has ls 4 [(0, .ref (m 0)), (1, .int (nI k))] := hl
  have hP : va_P G.1 vwCl (wM G m σ V ζ ns x len B) st.heap := hP
  have hc := hO.c
  have hs := hO.lS
  have hr := hO.lR
  have hne := hO.lE
  refine lv_iconst (v := nI 0) hx hb dX5_signsOf_0 (by decide) ?_
  refine lv_istore_n (lv' := [(2, .int (nI 0)), (0, .ref (m 0)), (1, .int (nI k))]) hx hb dX5_signsOf_1 rfl hl (by decide) rfl (fun ls hl => ?_)
  refine lv_iconst (v := nI 0) hx hb dX5_signsOf_2 (by decide) ?_
  refine lv_istore_n (lv' := [(3, .int (nI 0)), (2, .int (nI 0)), (0, .ref (m 0)), (1, .int (nI k))]) hx hb dX5_signsOf_3 rfl hl (by decide) rfl (fun ls hl => ?_)
  have loop4 : ∀ (n : Nat) (i : Nat) (xx : Nat) (hxx : xx = sm (fun j => if σ (64 + 53 * k + j) = 10 then 0 else 1) i) (hi : i ≤ 40) (hn : 40 < i + n) (ls : Array Slot) (hl : lv_has ls 4 [(0, .ref (m 0)), (1, .int (nI k)), (2, .int (nI xx)), (3, .int (nI i))]), W pr l en (zRm 1 22) st mi ar bl me cd st.heap [] 0 0 Q (F0 mi 4 ls []) := by
    intro n
    induction n with
    | zero => intro i xx hxx hi hn ls hl; exfalso; omega
    | succ n ih4 =>
      intro i xx hxx hi hn ls hl
      refine lv_iload_n hx hb dX5_signsOf_4 rfl (lv_at hl 3 rfl) ?_
      refine lv_bipush (v := nI 40) hx hb dX5_signsOf_5 (by decide) ?_
      refine lv_icmp_ge (tgt := 35) hx hb dX5_signsOf_7 (by decide) (fun h7 => ?_) (fun h7 => ?_)
      · skip
        have h7 : 40 ≤ i := (nI_leI (by omega) (by omega)).mp h7
        refine lv_iload_n hx hb dX5_signsOf_35 rfl (lv_at hl 2 rfl) ?_
        exact hret _ _ _ dX5_signsOf_36 (congrArg nI (by obtain rfl : i = 40 := (by omega); exact hxx))
      · skip
        have h7 : ¬ (40 ≤ i) := fun q => h7 ((nI_leI (by omega) (by omega)).mpr q)
        refine lv_iload_n hx hb dX5_signsOf_10 rfl (lv_at hl 2 rfl) ?_
        refine lv_aload_n hx hb dX5_signsOf_11 rfl (lv_at hl 0 rfl) ?_
        refine lv_iload_n hx hb dX5_signsOf_12 rfl (lv_at hl 1 rfl) ?_
        refine lv_iload_n hx hb dX5_signsOf_13 rfl (lv_at hl 3 rfl) ?_
        refine zrdV (As := [.int (nI k), .int (nI i)]) ⟨hx, hb, hml, hown, hts⟩ (kX5_of l G m σ V ζ ns x len B k i (by omega) (by omega) (by omega)) (cwV 2 hts gX5_signsOf_X5_of rfl rfl rfl (by decide +kernel) ⟨Nat.le_of_ble_eq_true rfl, Nat.le_of_ble_eq_true rfl⟩) hG (va_recv (q0 := 0) (ci := 5) hG.1 hP rfl rfl) (hP) rfl rfl hl.1 dX5_signsOf_14 (Nat.le_of_ble_eq_true rfl) ⟨Nat.le_of_ble_eq_true rfl, Nat.le_of_ble_eq_true rfl⟩ ?_
        refine lv_bipush (v := nI 10) hx hb dX5_signsOf_17 (by decide) ?_
        refine lv_icmp_ne (tgt := 26) hx hb dX5_signsOf_19 (by decide) (fun h19 => ?_) (fun h19 => ?_)
        · skip
          have h19 : ¬ (σ (64 + 53 * k + i) = 10) := fun q => h19 ((nI_eq (by have := hO.2.2.2.2.2.1 k i hk (by omega); omega) (by omega)).mpr q)
          refine lv_iconst (v := nI 1) hx hb dX5_signsOf_26 (by decide) ?_
          refine lv_iadd hx hb dX5_signsOf_27 ?_
          refine lv_topi (nm_r (e' := nI (xx + 1)) (nI_add _ _) ?_)
          refine lv_istore_n (lv' := [(2, .int (nI (xx + 1))), (0, .ref (m 0)), (1, .int (nI k)), (3, .int (nI i))]) hx hb dX5_signsOf_28 rfl hl (by decide) rfl (fun ls hl => ?_)
          refine lv_iinc (v := nI (i + 1)) (lv' := [(3, .int (nI (i + 1))), (2, .int (nI (xx + 1))), (0, .ref (m 0)), (1, .int (nI k))]) hx hb dX5_signsOf_29 hl (k := 3) rfl (zinc1 _) (by decide) rfl (fun ls hl => ?_)
          refine lv_goto (tgt := 4) hx hb dX5_signsOf_32 (by decide) ?_
          exact ih4 (i + 1) (xx + 1) (by rw [sm, ← hxx]; try (simp [h7, h19] <;> omega)) (by omega) (by omega) _ (lv_sub hl [2, 3, 1, 0] rfl)
        · skip
          have h19 : σ (64 + 53 * k + i) = 10 := (nI_eq (by have := hO.2.2.2.2.2.1 k i hk (by omega); omega) (by omega)).mp h19
          refine lv_iconst (v := nI 0) hx hb dX5_signsOf_22 (by decide) ?_
          refine lv_goto (tgt := 27) hx hb dX5_signsOf_23 (by decide) ?_
          refine lv_iadd hx hb dX5_signsOf_27 ?_
          refine lv_topi (nm_r (e' := nI (xx + 0)) (nI_add _ _) ?_)
          refine lv_istore_n (lv' := [(2, .int (nI (xx + 0))), (0, .ref (m 0)), (1, .int (nI k)), (3, .int (nI i))]) hx hb dX5_signsOf_28 rfl hl (by decide) rfl (fun ls hl => ?_)
          refine lv_iinc (v := nI (i + 1)) (lv' := [(3, .int (nI (i + 1))), (2, .int (nI (xx + 0))), (0, .ref (m 0)), (1, .int (nI k))]) hx hb dX5_signsOf_29 hl (k := 3) rfl (zinc1 _) (by decide) rfl (fun ls hl => ?_)
          refine lv_goto (tgt := 4) hx hb dX5_signsOf_32 (by decide) ?_
          exact ih4 (i + 1) (xx + 0) (by rw [sm, ← hxx]; try (simp [h7, h19] <;> omega)) (by omega) (by omega) _ (lv_sub hl [2, 3, 1, 0] rfl)
  exact loop4 (40 + 1) 0 0 (rfl) (by omega) (by omega) _ (lv_sub hl [2, 3, 1, 0] rfl)
