/-! settling, as the reference does it -/
theorem su_self {τ : Nat → Nat} {i v : Nat} (h : τ i = v) : su τ i v = τ := by
  funext j
  unfold su
  by_cases q : j = i
  · rw [if_pos q, q, h]
  · rw [if_neg q]
theorem fst1_sat {f : Nat → Bool} {n : Nat} (h : fst1 f n < n) : f (fst1 f n) = true := by
  induction n with
  | zero => omega
  | succ n ih =>
    rw [fst1] at h ⊢
    by_cases q : fst1 f n < n
    · rw [if_pos q]; exact ih q
    · rw [if_neg q] at h ⊢
      by_cases y : f n = true
      · rw [if_pos y]; exact y
      · rw [if_neg y] at h; omega
theorem stl_lo {σ : Nat → Nat} {k1 d1 k2 d2 j : Nat} (hj : j < 64) : ∀ p, stl σ k1 d1 k2 d2 p j = σ j := by
  intro p
  induction p with
  | zero => rfl
  | succ p ih =>
    rw [stl]
    unfold stS
    split
    · exact ih
    · rw [su_ne _ _ (by omega)]; exact ih
theorem rE_lo {τ σ : Nat → Nat} (h0 : τ 0 = σ 0) (h1 : τ 1 = σ 1) : rE τ = rE σ := by unfold rE; rw [h0, h1]
theorem nE_lo {τ σ : Nat → Nat} (h0 : τ 0 = σ 0) (h1 : τ 1 = σ 1) : nE τ = nE σ := by unfold nE; rw [h0, h1]
theorem nS_lo {τ σ : Nat → Nat} (h0 : τ 0 = σ 0) (h1 : τ 1 = σ 1) : nS τ = nS σ := by unfold nS; rw [h0, h1]
theorem fS_lo {τ σ : Nat → Nat} (h0 : τ 0 = σ 0) (h1 : τ 1 = σ 1) (e : Nat) : fS τ e = fS σ e := by unfold fS; rw [rE_lo h0 h1, h0]
theorem sS_lo {τ σ : Nat → Nat} (h0 : τ 0 = σ 0) (h1 : τ 1 = σ 1) (e : Nat) : sS τ e = sS σ e := by unfold sS; rw [fS_lo h0 h1, rE_lo h0 h1, h0]
theorem fD_lo {τ σ : Nat → Nat} (h0 : τ 0 = σ 0) (h1 : τ 1 = σ 1) (e : Nat) : fD τ e = fD σ e := by unfold fD; rw [rE_lo h0 h1]
theorem sD_lo {τ σ : Nat → Nat} (h0 : τ 0 = σ 0) (h1 : τ 1 = σ 1) (e : Nat) : sD τ e = sD σ e := by unfold sD; rw [rE_lo h0 h1]
theorem eO_lo {τ σ : Nat → Nat} (h0 : τ 0 = σ 0) (h1 : τ 1 = σ 1) (k d : Nat) : eO τ k d = eO σ k d := by unfold eO; rw [rE_lo h0 h1, h0, h1]
theorem stS_eq {N : Nat} {τ : Nat → Nat} (hO : Ok N τ) {k1 d1 k2 d2 p nw : Nat} (hk2 : k2 < 36) (hd2 : d2 < 4) (hp : p < 10)
    (h : (mns τ k1 d1 p = 10 ∧ nw = 10) ∨ (mns τ k1 d1 p ≠ 10 ∧ sgn τ k2 d2 p < 10 ∧ mng τ k2 (sgn τ k2 d2 p) = mns τ k1 d1 p ∧ nw = sgn τ k2 d2 p) ∨ (mns τ k1 d1 p ≠ 10 ∧ ¬ (sgn τ k2 d2 p < 10 ∧ mng τ k2 (sgn τ k2 d2 p) = mns τ k1 d1 p) ∧ nw = lws τ k2 (mns τ k1 d1 p) ∧ nw ≠ 10)) :
    su τ (64 + 53 * k2 + (10 * d2 + p)) nw = stS τ k1 d1 k2 d2 p ∧ (nw = sgn τ k2 d2 p ↔ mns τ k1 d1 p = mns τ k2 d2 p) := by
  have hs := hO.sg hk2 hd2 hp
  have hm := mns_10 hO hk2 hd2 hp
  unfold stS
  rcases h with ⟨h1, h2⟩ | ⟨h1, h2, h3, h4⟩ | ⟨h1, h2, h3, h4⟩
  · subst h2
    by_cases q : mns τ k1 d1 p = mns τ k2 d2 p
    · have hs10 := hm.mp (q.symm.trans h1)
      rw [if_pos q]
      exact ⟨su_self hs10, fun _ => q, fun _ => hs10.symm⟩
    · rw [if_neg q, if_pos h1]
      exact ⟨rfl, fun z => absurd (h1.trans (hm.mpr z.symm).symm) q, fun z => absurd z q⟩
  · have e : mns τ k2 d2 p = mns τ k1 d1 p := by unfold mns at h3 ⊢; rw [if_neg (show ¬ sgn τ k2 d2 p = 10 by omega)]; exact h3
    subst h4
    rw [if_pos e.symm]
    exact ⟨su_self rfl, fun _ => e.symm, fun _ => rfl⟩
  · have ne : mns τ k1 d1 p ≠ mns τ k2 d2 p := by
      intro z
      by_cases q : sgn τ k2 d2 p = 10
      · exact h1 (z.trans (hm.mpr q))
      · refine h2 ⟨by omega, ?_⟩
        rw [z]
        show _ = (if sgn τ k2 d2 p = 10 then 10 else mng τ k2 (sgn τ k2 d2 p))
        rw [if_neg q]
    rw [if_neg ne, if_neg h1, h3]
    refine ⟨rfl, fun z => ?_, fun z => absurd z ne⟩
    have hl := lws_le τ k2 (mns τ k1 d1 p)
    have hsat := fst1_sat (f := fun g => decide (mng τ k2 g = mns τ k1 d1 p)) (n := 10) (by show lws τ k2 (mns τ k1 d1 p) < 10; omega)
    have hsat := of_decide_eq_true hsat
    exact absurd ⟨by omega, by rw [← z]; exact hsat⟩ h2
set_option maxHeartbeats 4000000 in
set_option maxRecDepth 100000 in
theorem kX5_settle_inv (l : Launch) (G : zG) (m : Nat → Nat) (σ : Nat → Nat) (V : Nat → Nat → Nat) (ζ : Nat → Nat) (ns : Nat) (x : Nat → Nat) (len : Nat) (B : Nat → Int32) {N : Nat} (x1 : Int32) (x2 : Int32) (hO : Ok N σ) (hns : ns ≤ 4) (hv : ¬ (0 ≤ x1 ∧ x1 < nI (nE σ))) (hd : va_D (fun _ => True) (wM G m σ V ζ ns x len B)) : Met l yX5_settle wsX5_settle (zRm 4 91) (zPc G [.ref (m 0), .int x1, .int x2] (va_P G.1 vwCl (wM G m σ V ζ ns x len B))) (zQ (zA (wM G m σ V ζ ns x len B)) (some (.int ((-1)))) (va_P G.1 vwCl (wM G m σ V ζ ns x len B))) 0 0 (zA (wM G m σ V ζ ns x len B)) := by
  refine zmkWi (w := (wM G m σ V ζ ns x len B)) hd (cc := cX5_settle) (maxL := 10) (by decide) rfl (Nat.le_of_ble_eq_true rfl) ?_
  intro pr en st mi ar bl me cd ls Q hx hb hml hown hts hG hP hl hD hS hret
  have hown : st.vm.findClass RX5 = some mi.cls := hown
  have hl : lv_has ls 10 [(0, .ref (m 0)), (1, .int x1), (2, .int x2)] := hl
  have hP : va_P G.1 vwCl (wM G m σ V ζ ns x len B) st.heap := hP
  have hD : va_D (zA (wM G m σ V ζ ns x len B)) (wM G m σ V ζ ns x len B) := hD
  have hc := hO.c
  have hs := hO.lS
  have hr := hO.lR
  have hne := hO.lE
  refine lv_aload_n hx hb dX5_settle_0 rfl (lv_at hl 0 rfl) ?_
  refine lv_iload_n hx hb dX5_settle_1 rfl (lv_at hl 1 rfl) ?_
  refine zrdV (As := [.int x1]) ⟨hx, hb, hml, hown, hts⟩ (kX5_isEdge l G m σ V ζ ns x len B x1 (hO)) (cwV 1 hts gX5_settle_X5_isEdge rfl rfl rfl (by decide +kernel) ⟨Nat.le_of_ble_eq_true rfl, Nat.le_of_ble_eq_true rfl⟩) hG (va_recv (q0 := 0) (ci := 5) hG.1 hP rfl rfl) (hP) rfl rfl hl.1 dX5_settle_2 (Nat.le_of_ble_eq_true rfl) ⟨Nat.le_of_ble_eq_true rfl, Nat.le_of_ble_eq_true rfl⟩ ?_
  refine lv_if_eq (tgt := 26) hx hb dX5_settle_5 (by decide) (fun h5 => ?_) (fun h5 => ?_)
  · skip
    have h5 : ¬ (0 ≤ x1 ∧ x1 < nI (nE σ)) := (z_b0).mp h5
    refine lv_iconst (v := (-1)) hx hb dX5_settle_26 (by decide) ?_
    exact hret _ _ _ _ _ dX5_settle_27 hS (hP) (rfl)
  · skip
    have h5 : ¬ (¬ (0 ≤ x1 ∧ x1 < nI (nE σ))) := fun q => h5 ((z_b0).mpr q)
    have h5 : 0 ≤ x1 ∧ x1 < nI (nE σ) := Decidable.of_not_not h5
    exact absurd h5 hv
set_option maxHeartbeats 4000000 in
set_option maxRecDepth 100000 in
theorem kX5_settle_neither (l : Launch) (G : zG) (m : Nat → Nat) (σ : Nat → Nat) (V : Nat → Nat → Nat) (ζ : Nat → Nat) (ns : Nat) (x : Nat → Nat) (len : Nat) (B : Nat → Int32) {N : Nat} (e : Nat) (x2 : Int32) (hO : Ok N σ) (hns : ns ≤ 4) (he : e < nE σ) (hv1 : x2 ≠ nI (fS σ e)) (hv2 : x2 ≠ nI (sS σ e)) (hd : va_D (fun _ => True) (wM G m σ V ζ ns x len B)) : Met l yX5_settle wsX5_settle (zRm 4 91) (zPc G [.ref (m 0), .int (nI e), .int x2] (va_P G.1 vwCl (wM G m σ V ζ ns x len B))) (zQ (zA (wM G m σ V ζ ns x len B)) (some (.int ((-1)))) (va_P G.1 vwCl (wM G m σ V ζ ns x len B))) 0 0 (zA (wM G m σ V ζ ns x len B)) := by
  refine zmkWi (w := (wM G m σ V ζ ns x len B)) hd (cc := cX5_settle) (maxL := 10) (by decide) rfl (Nat.le_of_ble_eq_true rfl) ?_
  intro pr en st mi ar bl me cd ls Q hx hb hml hown hts hG hP hl hD hS hret
  have hown : st.vm.findClass RX5 = some mi.cls := hown
  have hl : lv_has ls 10 [(0, .ref (m 0)), (1, .int (nI e)), (2, .int x2)] := hl
  have hP : va_P G.1 vwCl (wM G m σ V ζ ns x len B) st.heap := hP
  have hD : va_D (zA (wM G m σ V ζ ns x len B)) (wM G m σ V ζ ns x len B) := hD
  have hc := hO.c
  have hs := hO.lS
  have hr := hO.lR
  have hne := hO.lE
  have hve : 0 ≤ nI e ∧ nI e < nI (nE σ) := z_in he (by omega)
  have hfs := hO.lF he
  refine lv_aload_n hx hb dX5_settle_0 rfl (lv_at hl 0 rfl) ?_
  refine lv_iload_n hx hb dX5_settle_1 rfl (lv_at hl 1 rfl) ?_
  refine zrdV (As := [.int (nI e)]) ⟨hx, hb, hml, hown, hts⟩ (kX5_isEdge l G m σ V ζ ns x len B (nI e) (hO)) (cwV 1 hts gX5_settle_X5_isEdge rfl rfl rfl (by decide +kernel) ⟨Nat.le_of_ble_eq_true rfl, Nat.le_of_ble_eq_true rfl⟩) hG (va_recv (q0 := 0) (ci := 5) hG.1 hP rfl rfl) (hP) rfl rfl hl.1 dX5_settle_2 (Nat.le_of_ble_eq_true rfl) ⟨Nat.le_of_ble_eq_true rfl, Nat.le_of_ble_eq_true rfl⟩ ?_
  refine lv_if_eq (tgt := 26) hx hb dX5_settle_5 (by decide) (fun h5 => ?_) (fun h5 => ?_)
  · skip
    have h5 : ¬ (0 ≤ (nI e) ∧ (nI e) < nI (nE σ)) := (z_b0).mp h5
    exact absurd hve h5
  · skip
    have h5 : ¬ (¬ (0 ≤ (nI e) ∧ (nI e) < nI (nE σ))) := fun q => h5 ((z_b0).mpr q)
    have h5 : 0 ≤ (nI e) ∧ (nI e) < nI (nE σ) := Decidable.of_not_not h5
    refine lv_iload_n hx hb dX5_settle_8 rfl (lv_at hl 2 rfl) ?_
    refine lv_aload_n hx hb dX5_settle_9 rfl (lv_at hl 0 rfl) ?_
    refine lv_iload_n hx hb dX5_settle_10 rfl (lv_at hl 1 rfl) ?_
    refine zrdV (As := [.int (nI e)]) ⟨hx, hb, hml, hown, hts⟩ (kX5_firstOf l G m σ V ζ ns x len B e (hO) (by omega)) (cwV 1 hts gX5_settle_X5_firstOf rfl rfl rfl (by decide +kernel) ⟨Nat.le_of_ble_eq_true rfl, Nat.le_of_ble_eq_true rfl⟩) hG (va_recv (q0 := 0) (ci := 5) hG.1 hP rfl rfl) (hP) rfl rfl hl.1 dX5_settle_11 (Nat.le_of_ble_eq_true rfl) ⟨Nat.le_of_ble_eq_true rfl, Nat.le_of_ble_eq_true rfl⟩ ?_
    have hf11_0 := hO.lF (show e < nE σ by omega)
    refine lv_icmp_eq (tgt := 28) hx hb dX5_settle_14 (by decide) (fun h14 => ?_) (fun h14 => ?_)
    · skip
      exact absurd h14 hv1
    · skip
      refine lv_iload_n hx hb dX5_settle_17 rfl (lv_at hl 2 rfl) ?_
      refine lv_aload_n hx hb dX5_settle_18 rfl (lv_at hl 0 rfl) ?_
      refine lv_iload_n hx hb dX5_settle_19 rfl (lv_at hl 1 rfl) ?_
      refine zrdV (As := [.int (nI e)]) ⟨hx, hb, hml, hown, hts⟩ (kX5_secondOf l G m σ V ζ ns x len B e (hO) (by omega)) (cwV 1 hts gX5_settle_X5_secondOf rfl rfl rfl (by decide +kernel) ⟨Nat.le_of_ble_eq_true rfl, Nat.le_of_ble_eq_true rfl⟩) hG (va_recv (q0 := 0) (ci := 5) hG.1 hP rfl rfl) (hP) rfl rfl hl.1 dX5_settle_20 (Nat.le_of_ble_eq_true rfl) ⟨Nat.le_of_ble_eq_true rfl, Nat.le_of_ble_eq_true rfl⟩ ?_
      have hf20_0 := hO.lF (show e < nE σ by omega)
      refine lv_icmp_eq (tgt := 28) hx hb dX5_settle_23 (by decide) (fun h23 => ?_) (fun h23 => ?_)
      · skip
        exact absurd h23 hv2
      · skip
        refine lv_iconst (v := (-1)) hx hb dX5_settle_26 (by decide) ?_
        exact hret _ _ _ _ _ dX5_settle_27 hS (hP) (rfl)
set_option maxHeartbeats 4000000 in
set_option maxRecDepth 100000 in
theorem kX5_settle_f_ok (l : Launch) (G : zG) (m : Nat → Nat) (σ : Nat → Nat) (V : Nat → Nat → Nat) (ζ : Nat → Nat) (ns : Nat) (x : Nat → Nat) (len : Nat) (B : Nat → Int32) {N : Nat} (e : Nat) (hO : Ok N σ) (hns : ns ≤ 4) (he : e < nE σ) (hbad : ¬ sbd σ (fS σ e) (fD σ e) (sS σ e) (sD σ e) < 10) (hd : va_D (fun _ => True) (wM G m σ V ζ ns x len B)) : Met l yX5_settle wsX5_settle (zRm 4 91) (zPc G [.ref (m 0), .int (nI e), .int (nI (fS σ e))] (va_P G.1 vwCl (wM G m σ V ζ ns x len B))) (zQ (zA (wM G m σ V ζ ns x len B)) (some (.int (nI (stc σ (fS σ e) (fD σ e) (sS σ e) (sD σ e) 10)))) (va_P G.1 vwCl (wM G m (stE σ (fS σ e) (fD σ e) (sS σ e) (sD σ e)) (updv V ns σ) σ (nN ns) x len B))) 0 0 (zA (wM G m σ V ζ ns x len B)) := by
  refine zmkWi (w := (wM G m σ V ζ ns x len B)) hd (cc := cX5_settle) (maxL := 10) (by decide) rfl (Nat.le_of_ble_eq_true rfl) ?_
  intro pr en st mi ar bl me cd ls Q hx hb hml hown hts hG hP hl hD hS hret
  have hown : st.vm.findClass RX5 = some mi.cls := hown
  have hl : lv_has ls 10 [(0, .ref (m 0)), (1, .int (nI e)), (2, .int (nI (fS σ e)))] := hl
  have hP : va_P G.1 vwCl (wM G m σ V ζ ns x len B) st.heap := hP
  have hD : va_D (zA (wM G m σ V ζ ns x len B)) (wM G m σ V ζ ns x len B) := hD
  have hc := hO.c
  have hs := hO.lS
  have hr := hO.lR
  have hne := hO.lE
  have hve : 0 ≤ nI e ∧ nI e < nI (nE σ) := z_in he (by omega)
  have hlt : fS σ e < sS σ e := by unfold sS; have := hO.c; split <;> omega
  have hda := fD_lt σ e
  have hdb := sD_lt σ e
  have hstc := stc_le σ (fS σ e) (fD σ e) (sS σ e) (sD σ e) 10
  have hfs := hO.lF he
  refine lv_aload_n hx hb dX5_settle_0 rfl (lv_at hl 0 rfl) ?_
  refine lv_iload_n hx hb dX5_settle_1 rfl (lv_at hl 1 rfl) ?_
  refine zrdV (As := [.int (nI e)]) ⟨hx, hb, hml, hown, hts⟩ (kX5_isEdge l G m σ V ζ ns x len B (nI e) (hO)) (cwV 1 hts gX5_settle_X5_isEdge rfl rfl rfl (by decide +kernel) ⟨Nat.le_of_ble_eq_true rfl, Nat.le_of_ble_eq_true rfl⟩) hG (va_recv (q0 := 0) (ci := 5) hG.1 hP rfl rfl) (hP) rfl rfl hl.1 dX5_settle_2 (Nat.le_of_ble_eq_true rfl) ⟨Nat.le_of_ble_eq_true rfl, Nat.le_of_ble_eq_true rfl⟩ ?_
  refine lv_if_eq (tgt := 26) hx hb dX5_settle_5 (by decide) (fun h5 => ?_) (fun h5 => ?_)
  · skip
    have h5 : ¬ (0 ≤ (nI e) ∧ (nI e) < nI (nE σ)) := (z_b0).mp h5
    exact absurd hve h5
  · skip
    have h5 : ¬ (¬ (0 ≤ (nI e) ∧ (nI e) < nI (nE σ))) := fun q => h5 ((z_b0).mpr q)
    have h5 : 0 ≤ (nI e) ∧ (nI e) < nI (nE σ) := Decidable.of_not_not h5
    refine lv_iload_n hx hb dX5_settle_8 rfl (lv_at hl 2 rfl) ?_
    refine lv_aload_n hx hb dX5_settle_9 rfl (lv_at hl 0 rfl) ?_
    refine lv_iload_n hx hb dX5_settle_10 rfl (lv_at hl 1 rfl) ?_
    refine zrdV (As := [.int (nI e)]) ⟨hx, hb, hml, hown, hts⟩ (kX5_firstOf l G m σ V ζ ns x len B e (hO) (by omega)) (cwV 1 hts gX5_settle_X5_firstOf rfl rfl rfl (by decide +kernel) ⟨Nat.le_of_ble_eq_true rfl, Nat.le_of_ble_eq_true rfl⟩) hG (va_recv (q0 := 0) (ci := 5) hG.1 hP rfl rfl) (hP) rfl rfl hl.1 dX5_settle_11 (Nat.le_of_ble_eq_true rfl) ⟨Nat.le_of_ble_eq_true rfl, Nat.le_of_ble_eq_true rfl⟩ ?_
    have hf11_0 := hO.lF (show e < nE σ by omega)
    refine lv_icmp_eq (tgt := 28) hx hb dX5_settle_14 (by decide) (fun h14 => ?_) (fun h14 => ?_)
    · skip
      have h14 : (fS σ e) = (fS σ e) := (nI_eq (by omega) (by omega)).mp h14
      refine lv_aload_n hx hb dX5_settle_28 rfl (lv_at hl 0 rfl) ?_
      refine zwrWv (G := G) (wc := (wM G m σ V ζ ns x len B)) (wc' := (wM G m σ V σ ns x len B)) (va_runV (As := []) (rest := []) ⟨hx, hb, hml, hown, hts⟩ (kX5_hold l G m σ V ζ ns x len B (zD_any hD)) (cwV 0 hts gX5_settle_X5_hold rfl rfl rfl (by decide +kernel) ⟨Nat.le_of_ble_eq_true rfl, Nat.le_of_ble_eq_true rfl⟩) (zPreV hG (va_recv (q0 := 0) (ci := 5) hG.1 hP rfl rfl) (hP)) rfl rfl hl.1 rfl (lv_room (Nat.le_of_ble_eq_true rfl)) dX5_settle_29 ⟨Nat.le_of_ble_eq_true rfl, Nat.le_of_ble_eq_true rfl⟩) hP hD hS (wM_map ..) (fun H locs hP hD hS => ?_)
      have hP : va_P G.1 vwCl (wM G m σ V σ ns x len B) H := hP
      have hD : va_D (zA (wM G m σ V ζ ns x len B)) (wM G m σ V σ ns x len B) := hD
      refine lv_iload_n hx hb dX5_settle_32 rfl (lv_at hl 2 rfl) ?_
      refine lv_aload_n hx hb dX5_settle_33 rfl (lv_at hl 0 rfl) ?_
      refine lv_iload_n hx hb dX5_settle_34 rfl (lv_at hl 1 rfl) ?_
      refine zrdV (As := [.int (nI e)]) ⟨hx, hb, hml, hown, hts⟩ (kX5_firstOf l G m σ V σ ns x len B e (hO) (by omega)) (cwV 1 hts gX5_settle_X5_firstOf rfl rfl rfl (by decide +kernel) ⟨Nat.le_of_ble_eq_true rfl, Nat.le_of_ble_eq_true rfl⟩) hG (va_recv (q0 := 0) (ci := 5) hG.1 hP rfl rfl) (hP) rfl rfl hl.1 dX5_settle_35 (Nat.le_of_ble_eq_true rfl) ⟨Nat.le_of_ble_eq_true rfl, Nat.le_of_ble_eq_true rfl⟩ ?_
      have hf35_0 := hO.lF (show e < nE σ by omega)
      refine lv_icmp_ne (tgt := 45) hx hb dX5_settle_38 (by decide) (fun h38 => ?_) (fun h38 => ?_)
      · skip
        have h38 : ¬ ((fS σ e) = (fS σ e)) := fun q => h38 ((nI_eq (by omega) (by omega)).mpr q)
        exact absurd rfl h38
      · skip
        have h38 : (fS σ e) = (fS σ e) := (nI_eq (by omega) (by omega)).mp h38
        refine lv_iconst (v := nI 1) hx hb dX5_settle_41 (by decide) ?_
        refine lv_goto (tgt := 46) hx hb dX5_settle_42 (by decide) ?_
        refine lv_istore_n (lv' := [(3, .int (nI 1)), (0, .ref (m 0)), (1, .int (nI e)), (2, .int (nI (fS σ e)))]) hx hb dX5_settle_46 rfl hl (by decide) rfl (fun ls hl => ?_)
        refine lv_iload_n hx hb dX5_settle_47 rfl (lv_at hl 0 rfl) ?_
        refine lv_if_eq (tgt := 59) hx hb dX5_settle_48 (by decide) (fun h48 => ?_) (fun h48 => ?_)
        · skip
          have h48 : 1 = 0 := (z_eq0 (by omega)).mp h48
          exfalso; omega
        · skip
          have h48 : ¬ (1 = 0) := fun q => h48 ((z_eq0 (by omega)).mpr q)
          have h48 : 0 < 1 := Nat.pos_of_ne_zero h48
          refine lv_aload_n hx hb dX5_settle_51 rfl (lv_at hl 1 rfl) ?_
          refine lv_iload_n hx hb dX5_settle_52 rfl (lv_at hl 2 rfl) ?_
          refine zrdV (As := [.int (nI e)]) ⟨hx, hb, hml, hown, hts⟩ (kX5_secondOf l G m σ V σ ns x len B e (hO) (by omega)) (cwV 1 hts gX5_settle_X5_secondOf rfl rfl rfl (by decide +kernel) ⟨Nat.le_of_ble_eq_true rfl, Nat.le_of_ble_eq_true rfl⟩) hG (va_recv (q0 := 0) (ci := 5) hG.1 hP rfl rfl) (hP) rfl rfl hl.1 dX5_settle_53 (Nat.le_of_ble_eq_true rfl) ⟨Nat.le_of_ble_eq_true rfl, Nat.le_of_ble_eq_true rfl⟩ ?_
          have hf53_0 := hO.lF (show e < nE σ by omega)
          refine lv_goto (tgt := 64) hx hb dX5_settle_56 (by decide) ?_
          refine lv_istore (lv' := [(4, .int (nI (sS σ e))), (3, .int (nI 1)), (0, .ref (m 0)), (1, .int (nI e)), (2, .int (nI (fS σ e)))]) hx hb dX5_settle_64 hl (by decide) rfl (fun ls hl => ?_)
          refine lv_iload_n hx hb dX5_settle_66 rfl (lv_at hl 1 rfl) ?_
          refine lv_if_ne (tgt := 78) hx hb dX5_settle_67 (by decide) (fun h67 => ?_) (fun h67 => ?_)
          · skip
            have h67 : ¬ (1 = 0) := fun q => h67 ((z_eq0 (by omega)).mpr q)
            have h67 : 0 < 1 := Nat.pos_of_ne_zero h67
            refine lv_aload_n hx hb dX5_settle_78 rfl (lv_at hl 2 rfl) ?_
            refine lv_iload_n hx hb dX5_settle_79 rfl (lv_at hl 3 rfl) ?_
            refine zrdV (As := [.int (nI e)]) ⟨hx, hb, hml, hown, hts⟩ (kX5_sideOf l G m σ V σ ns x len B e (hO) (by omega)) (cwV 1 hts gX5_settle_X5_sideOf rfl rfl rfl (by decide +kernel) ⟨Nat.le_of_ble_eq_true rfl, Nat.le_of_ble_eq_true rfl⟩) hG (va_recv (q0 := 0) (ci := 5) hG.1 hP rfl rfl) (hP) rfl rfl hl.1 dX5_settle_80 (Nat.le_of_ble_eq_true rfl) ⟨Nat.le_of_ble_eq_true rfl, Nat.le_of_ble_eq_true rfl⟩ ?_
            have hf80_0 := fD_lt σ (e)
            refine lv_iconst (v := nI 1) hx hb dX5_settle_83 (by decide) ?_
            refine lv_icmp_ne (tgt := 91) hx hb dX5_settle_84 (by decide) (fun h84 => ?_) (fun h84 => ?_)
            · skip
              have h84 : ¬ ((fD σ e) = 1) := fun q => h84 ((nI_eq (by omega) (by omega)).mpr q)
              refine lv_iconst (v := nI 0) hx hb dX5_settle_91 (by decide) ?_
              refine lv_topi (nm_r (e' := nI (sD σ e)) (congrArg nI (by unfold sD; rw [if_neg (by unfold fD at h84; split at h84 <;> omega)])) ?_)
              refine lv_istore (lv' := [(5, .int (nI (sD σ e))), (4, .int (nI (sS σ e))), (3, .int (nI 1)), (0, .ref (m 0)), (1, .int (nI e)), (2, .int (nI (fS σ e)))]) hx hb dX5_settle_92 hl (by decide) rfl (fun ls hl => ?_)
              refine lv_iconst (v := nI 0) hx hb dX5_settle_94 (by decide) ?_
              refine lv_istore (lv' := [(6, .int (nI 0)), (5, .int (nI (sD σ e))), (4, .int (nI (sS σ e))), (3, .int (nI 1)), (0, .ref (m 0)), (1, .int (nI e)), (2, .int (nI (fS σ e)))]) hx hb dX5_settle_95 hl (by decide) rfl (fun ls hl => ?_)
              refine lv_iconst (v := nI 0) hx hb dX5_settle_97 (by decide) ?_
              refine lv_istore (lv' := [(7, .int (nI 0)), (6, .int (nI 0)), (5, .int (nI (sD σ e))), (4, .int (nI (sS σ e))), (3, .int (nI 1)), (0, .ref (m 0)), (1, .int (nI e)), (2, .int (nI (fS σ e)))]) hx hb dX5_settle_98 hl (by decide) rfl (fun ls hl => ?_)
              have loop100 : ∀ (n : Nat) (p : Nat) (τ : Nat → Nat) (c : Nat) (hτ : τ = stl σ (fS σ e) (fD σ e) (sS σ e) (sD σ e) p) (hxc : c = stc σ (fS σ e) (fD σ e) (sS σ e) (sD σ e) p) (hz : ∀ j, j < p → sBad (stl σ (fS σ e) (fD σ e) (sS σ e) (sD σ e) j) (fS σ e) (fD σ e) (sS σ e) (sD σ e) j = false) (hOτ : Ok N τ) (hp : p ≤ 10) (hcp : c ≤ p) (hn : 10 < p + n) (ls : Array Slot) (hl : lv_has ls 10 [(0, .ref (m 0)), (1, .int (nI e)), (2, .int (nI (fS σ e))), (3, .int (nI 1)), (4, .int (nI (sS σ e))), (5, .int (nI (sD σ e))), (6, .int (nI c)), (7, .int (nI p))]) (H : Heap) (locs : List Loc) (hP : va_P G.1 vwCl (wM G m τ V σ ns x len B) H) (hD : va_D (zA (wM G m σ V ζ ns x len B)) (wM G m τ V σ ns x len B)) (hS : va_S (zA (wM G m σ V ζ ns x len B)) st.heap H locs), W pr l en (zRm 4 91) st mi ar bl me cd H locs 0 0 Q (F0 mi 100 ls []) := by
                intro n
                induction n with
                | zero => intro p τ c hτ hxc hz hOτ hp hcp hn ls hl H locs hP hD hS; exfalso; omega
                | succ n ih100 =>
                  intro p τ c hτ hxc hz hOτ hp hcp hn ls hl H locs hP hD hS
                  refine lv_iload hx hb dX5_settle_100 (lv_at hl 7 rfl) ?_
                  refine lv_bipush (v := nI 10) hx hb dX5_settle_102 (by decide) ?_
                  refine lv_icmp_ge (tgt := 203) hx hb dX5_settle_104 (by decide) (fun h104 => ?_) (fun h104 => ?_)
                  · skip
                    have h104 : 10 ≤ p := (nI_leI (by omega) (by omega)).mp h104
                    obtain rfl : p = 10 := (by omega)
                    refine lv_iload hx hb dX5_settle_203 (lv_at hl 6 rfl) ?_
                    refine lv_if_le (tgt := 214) hx hb dX5_settle_205 (by decide) (fun h205 => ?_) (fun h205 => ?_)
                    · skip
                      have h205 : c = 0 := (z_le0 (by omega)).mp h205
                      refine lv_aload_n hx hb dX5_settle_214 rfl (lv_at hl 0 rfl) ?_
                      refine lv_iload hx hb dX5_settle_215 (lv_at hl 6 rfl) ?_
                      refine zwrW (G := G) (wc := (wM G m τ V σ ns x len B)) (wc' := (wM G m τ (updv V ns σ) σ (nN ns) x len B)) (va_runV (As := [.int (nI c)]) (rest := []) ⟨hx, hb, hml, hown, hts⟩ (kX5_records l G m τ V σ ns x len B (nI c) (by omega) (zD_any hD)) (cwV 1 hts gX5_settle_X5_records rfl rfl rfl (by decide +kernel) ⟨Nat.le_of_ble_eq_true rfl, Nat.le_of_ble_eq_true rfl⟩) (zPreV hG (va_recv (q0 := 0) (ci := 5) hG.1 hP rfl rfl) (hP)) rfl rfl hl.1 rfl (lv_room (Nat.le_of_ble_eq_true rfl)) dX5_settle_217 ⟨Nat.le_of_ble_eq_true rfl, Nat.le_of_ble_eq_true rfl⟩) hP hD hS (wM_map ..) (fun H locs hP hD hS => ?_)
                      have hP : va_P G.1 vwCl (wM G m τ (updv V ns σ) σ (nN ns) x len B) H := hP
                      have hD : va_D (zA (wM G m σ V ζ ns x len B)) (wM G m τ (updv V ns σ) σ (nN ns) x len B) := hD
                      exact hret _ _ _ _ _ dX5_settle_220 hS (by rw [show stE σ (fS σ e) (fD σ e) (sS σ e) (sD σ e) = _ from if_neg (by rw [← hxc]; omega), ← hτ]; exact hP) (by rw [← hxc])
                    · skip
                      have h205 : ¬ (c = 0) := fun q => h205 ((z_le0 (by omega)).mpr q)
                      have h205 : 0 < c := Nat.pos_of_ne_zero h205
                      refine lv_aload_n hx hb dX5_settle_208 rfl (lv_at hl 0 rfl) ?_
                      refine lv_iload hx hb dX5_settle_209 (lv_at hl 4 rfl) ?_
                      refine zwrWv (G := G) (wc := (wM G m τ V σ ns x len B)) (wc' := (wM G m (su τ (114 + 53 * (sS σ e)) (rvn τ (sS σ e) + 1)) V σ ns x len B)) (va_runV (As := [.int (nI (sS σ e))]) (rest := []) ⟨hx, hb, hml, hown, hts⟩ (kX5_revises l G m τ V σ ns x len B (sS σ e) (by omega) (zD_any hD)) (cwV 1 hts gX5_settle_X5_revises rfl rfl rfl (by decide +kernel) ⟨Nat.le_of_ble_eq_true rfl, Nat.le_of_ble_eq_true rfl⟩) (zPreV hG (va_recv (q0 := 0) (ci := 5) hG.1 hP rfl rfl) (hP)) rfl rfl hl.1 rfl (lv_room (Nat.le_of_ble_eq_true rfl)) dX5_settle_211 ⟨Nat.le_of_ble_eq_true rfl, Nat.le_of_ble_eq_true rfl⟩) hP hD hS (wM_map ..) (fun H locs hP hD hS => ?_)
                      have hP : va_P G.1 vwCl (wM G m (su τ (114 + 53 * (sS σ e)) (rvn τ (sS σ e) + 1)) V σ ns x len B) H := hP
                      have hD : va_D (zA (wM G m σ V ζ ns x len B)) (wM G m (su τ (114 + 53 * (sS σ e)) (rvn τ (sS σ e) + 1)) V σ ns x len B) := hD
                      refine lv_aload_n hx hb dX5_settle_214 rfl (lv_at hl 0 rfl) ?_
                      refine lv_iload hx hb dX5_settle_215 (lv_at hl 6 rfl) ?_
                      refine zwrW (G := G) (wc := (wM G m (su τ (114 + 53 * (sS σ e)) (rvn τ (sS σ e) + 1)) V σ ns x len B)) (wc' := (wM G m (su τ (114 + 53 * (sS σ e)) (rvn τ (sS σ e) + 1)) (updv V ns σ) σ (nN ns) x len B)) (va_runV (As := [.int (nI c)]) (rest := []) ⟨hx, hb, hml, hown, hts⟩ (kX5_records l G m (su τ (114 + 53 * (sS σ e)) (rvn τ (sS σ e) + 1)) V σ ns x len B (nI c) (by omega) (zD_any hD)) (cwV 1 hts gX5_settle_X5_records rfl rfl rfl (by decide +kernel) ⟨Nat.le_of_ble_eq_true rfl, Nat.le_of_ble_eq_true rfl⟩) (zPreV hG (va_recv (q0 := 0) (ci := 5) hG.1 hP rfl rfl) (hP)) rfl rfl hl.1 rfl (lv_room (Nat.le_of_ble_eq_true rfl)) dX5_settle_217 ⟨Nat.le_of_ble_eq_true rfl, Nat.le_of_ble_eq_true rfl⟩) hP hD hS (wM_map ..) (fun H locs hP hD hS => ?_)
                      have hP : va_P G.1 vwCl (wM G m (su τ (114 + 53 * (sS σ e)) (rvn τ (sS σ e) + 1)) (updv V ns σ) σ (nN ns) x len B) H := hP
                      have hD : va_D (zA (wM G m σ V ζ ns x len B)) (wM G m (su τ (114 + 53 * (sS σ e)) (rvn τ (sS σ e) + 1)) (updv V ns σ) σ (nN ns) x len B) := hD
                      exact hret _ _ _ _ _ dX5_settle_220 hS (by rw [show stE σ (fS σ e) (fD σ e) (sS σ e) (sD σ e) = _ from if_pos (by rw [← hxc]; omega), ← hτ]; exact hP) (by rw [← hxc])
                  · skip
                    have h104 : ¬ (10 ≤ p) := fun q => h104 ((nI_leI (by omega) (by omega)).mpr q)
                    have t0 : τ 0 = σ 0 := by rw [hτ]; exact stl_lo (by omega) p
                    have t1 : τ 1 = σ 1 := by rw [hτ]; exact stl_lo (by omega) p
                    have tE := nE_lo t0 t1
                    have tf := fS_lo t0 t1 e
                    have ts := sS_lo t0 t1 e
                    have tfd := fD_lo t0 t1 e
                    have tsd := sD_lo t0 t1 e
                    refine lv_aload_n hx hb dX5_settle_107 rfl (lv_at hl 0 rfl) ?_
                    refine lv_iload hx hb dX5_settle_108 (lv_at hl 4 rfl) ?_
                    refine lv_iload hx hb dX5_settle_110 (lv_at hl 5 rfl) ?_
                    refine lv_iload hx hb dX5_settle_112 (lv_at hl 7 rfl) ?_
                    refine zrdV (As := [.int (nI (sS σ e)), .int (nI (sD σ e)), .int (nI p)]) ⟨hx, hb, hml, hown, hts⟩ (kX5_signAt l G m τ V σ ns x len B (sS σ e) (sD σ e) p (by omega) (by omega) (by omega)) (cwV 3 hts gX5_settle_X5_signAt rfl rfl rfl (by decide +kernel) ⟨Nat.le_of_ble_eq_true rfl, Nat.le_of_ble_eq_true rfl⟩) hG (va_recv (q0 := 0) (ci := 5) hG.1 hP rfl rfl) (hP) rfl rfl hl.1 dX5_settle_114 (Nat.le_of_ble_eq_true rfl) ⟨Nat.le_of_ble_eq_true rfl, Nat.le_of_ble_eq_true rfl⟩ ?_
                    refine lv_istore (lv' := [(8, .int (nI (sgn τ (sS σ e) (sD σ e) p))), (0, .ref (m 0)), (1, .int (nI e)), (2, .int (nI (fS σ e))), (3, .int (nI 1)), (4, .int (nI (sS σ e))), (5, .int (nI (sD σ e))), (6, .int (nI c)), (7, .int (nI p))]) hx hb dX5_settle_117 hl (by decide) rfl (fun ls hl => ?_)
                    refine lv_aload_n hx hb dX5_settle_119 rfl (lv_at hl 1 rfl) ?_
                    refine lv_iload hx hb dX5_settle_120 (lv_at hl 5 rfl) ?_
                    refine lv_iload hx hb dX5_settle_122 (lv_at hl 0 rfl) ?_
                    refine lv_iload_n hx hb dX5_settle_124 rfl (lv_at hl 4 rfl) ?_
                    refine lv_if_eq (tgt := 138) hx hb dX5_settle_125 (by decide) (fun h125 => ?_) (fun h125 => ?_)
                    · skip
                      have h125 : 1 = 0 := (z_eq0 (by omega)).mp h125
                      exfalso; omega
                    · skip
                      have h125 : ¬ (1 = 0) := fun q => h125 ((z_eq0 (by omega)).mpr q)
                      have h125 : 0 < 1 := Nat.pos_of_ne_zero h125
                      refine lv_aload_n hx hb dX5_settle_128 rfl (lv_at hl 1 rfl) ?_
                      refine lv_iload_n hx hb dX5_settle_129 rfl (lv_at hl 2 rfl) ?_
                      refine lv_iload hx hb dX5_settle_130 (lv_at hl 8 rfl) ?_
                      refine zrdV (As := [.int (nI e), .int (nI p)]) ⟨hx, hb, hml, hown, hts⟩ (kX5_firstMeans l G m τ V σ ns x len B e p (hOτ) (by omega) (by omega)) (cwV 2 hts gX5_settle_X5_firstMeans rfl rfl rfl (by decide +kernel) ⟨Nat.le_of_ble_eq_true rfl, Nat.le_of_ble_eq_true rfl⟩) hG (va_recv (q0 := 0) (ci := 5) hG.1 hP rfl rfl) (hP) rfl rfl hl.1 dX5_settle_132 (Nat.le_of_ble_eq_true rfl) ⟨Nat.le_of_ble_eq_true rfl, Nat.le_of_ble_eq_true rfl⟩ ?_
                      have hf132_0 := hOτ.mn (show fS τ (e) < 36 by have := hOτ.lF (show e < nE τ by omega); omega) (fD_lt τ (e)) (show p < 10 by omega)
                      refine lv_topi (nm_r (e' := nI (mns τ (fS σ e) (fD σ e) p)) (by rw [tf, tfd]) ?_)
                      refine lv_goto (tgt := 145) hx hb dX5_settle_135 (by decide) ?_
                      have hv10 := hOτ.mn (show fS σ e < 36 by omega) (show fD σ e < 4 by omega) (show p < 10 by omega)
                      have hs10 := hOτ.sg (show sS σ e < 36 by omega) (show sD σ e < 4 by omega) (show p < 10 by omega)
                      rcases (show mns τ (fS σ e) (fD σ e) p = 10 ∨ (mns τ (fS σ e) (fD σ e) p < 10 ∧ (sgn τ (sS σ e) (sD σ e) p < 10 ∧ mng τ (sS σ e) (sgn τ (sS σ e) (sD σ e) p) = mns τ (fS σ e) (fD σ e) p)) ∨ (mns τ (fS σ e) (fD σ e) p < 10 ∧ ¬ (sgn τ (sS σ e) (sD σ e) p < 10 ∧ mng τ (sS σ e) (sgn τ (sS σ e) (sD σ e) p) = mns τ (fS σ e) (fD σ e) p)) by by_cases z : mns τ (fS σ e) (fD σ e) p = 10; exact Or.inl z; right; by_cases y : sgn τ (sS σ e) (sD σ e) p < 10 ∧ mng τ (sS σ e) (sgn τ (sS σ e) (sD σ e) p) = mns τ (fS σ e) (fD σ e) p; exact Or.inl ⟨by omega, y⟩; exact Or.inr ⟨by omega, y⟩) with hva | hvb | hvb
                      · skip
                        rw [show nI (mns τ (fS σ e) (fD σ e) p) = nI 10 by rw [hva]]
                        refine zrdV (As := [.int (nI (sS σ e)), .int (nI (sgn τ (sS σ e) (sD σ e) p)), .int (nI 10)]) ⟨hx, hb, hml, hown, hts⟩ (kX5_signFor_10 l G m τ V σ ns x len B (sS σ e) (sgn τ (sS σ e) (sD σ e) p)) (cwV 3 hts gX5_settle_X5_signFor rfl rfl rfl (by decide +kernel) ⟨Nat.le_of_ble_eq_true rfl, Nat.le_of_ble_eq_true rfl⟩) hG (va_recv (q0 := 0) (ci := 5) hG.1 hP rfl rfl) (hP) rfl rfl hl.1 dX5_settle_145 (Nat.le_of_ble_eq_true rfl) ⟨Nat.le_of_ble_eq_true rfl, Nat.le_of_ble_eq_true rfl⟩ ?_
                        refine lv_istore (lv' := [(9, .int (nI 10)), (8, .int (nI (sgn τ (sS σ e) (sD σ e) p))), (0, .ref (m 0)), (1, .int (nI e)), (2, .int (nI (fS σ e))), (3, .int (nI 1)), (4, .int (nI (sS σ e))), (5, .int (nI (sD σ e))), (6, .int (nI c)), (7, .int (nI p))]) hx hb dX5_settle_148 hl (by decide) rfl (fun ls hl => ?_)
                        refine lv_iload hx hb dX5_settle_150 (lv_at hl 0 rfl) ?_
                        refine lv_bipush (v := (-4)) hx hb dX5_settle_152 (by decide) ?_
                        refine lv_icmp_ne (tgt := 164) hx hb dX5_settle_154 (by decide) (fun h154 => ?_) (fun h154 => ?_)
                        · skip
                          have h154 : ¬ (False) := fun q => h154 ((iff_of_false (z_m4 (by omega)) id).mpr q)
                          refine lv_iload hx hb dX5_settle_164 (lv_at hl 8 rfl) ?_
                          refine lv_iload hx hb dX5_settle_166 (lv_at hl 0 rfl) ?_
                          refine lv_iload hx hb dX5_settle_168 (lv_at hl 1 rfl) ?_
                          refine lv_icmp_ne (tgt := 177) hx hb dX5_settle_170 (by decide) (fun h170 => ?_) (fun h170 => ?_)
                          · skip
                            have h170 : ¬ (10 = (sgn τ (sS σ e) (sD σ e) p)) := fun q => h170 ((nI_eq (by omega) (by omega)).mpr q)
                            refine lv_iconst (v := nI 1) hx hb dX5_settle_177 (by decide) ?_
                            refine lv_iadd hx hb dX5_settle_178 ?_
                            refine lv_topi (nm_r (e' := nI (c + 1)) (nI_add _ _) ?_)
                            refine lv_istore (lv' := [(6, .int (nI (c + 1))), (9, .int (nI 10)), (8, .int (nI (sgn τ (sS σ e) (sD σ e) p))), (0, .ref (m 0)), (1, .int (nI e)), (2, .int (nI (fS σ e))), (3, .int (nI 1)), (4, .int (nI (sS σ e))), (5, .int (nI (sD σ e))), (7, .int (nI p))]) hx hb dX5_settle_179 hl (by decide) rfl (fun ls hl => ?_)
                            refine lv_aload_n hx hb dX5_settle_181 rfl (lv_at hl 3 rfl) ?_
                            refine lv_iload hx hb dX5_settle_182 (lv_at hl 7 rfl) ?_
                            refine lv_bipush (v := nI 10) hx hb dX5_settle_184 (by decide) ?_
                            refine lv_iload hx hb dX5_settle_186 (lv_at hl 8 rfl) ?_
                            refine lv_imul hx hb dX5_settle_188 ?_
                            refine lv_topi (nm_r (e' := nI (10 * (sD σ e))) (pk_mul _ _) ?_)
                            refine lv_iload hx hb dX5_settle_189 (lv_at hl 9 rfl) ?_
                            refine lv_iadd hx hb dX5_settle_191 ?_
                            refine lv_topi (nm_r (e' := nI ((10 * (sD σ e)) + p)) (nI_add _ _) ?_)
                            refine lv_iload hx hb dX5_settle_192 (lv_at hl 1 rfl) ?_
                            refine zwrWv (G := G) (wc := (wM G m τ V σ ns x len B)) (wc' := (wM G m (su τ (64 + 53 * (sS σ e) + ((10 * (sD σ e)) + p)) 10) V σ ns x len B)) (va_runV (As := [.int (nI (sS σ e)), .int (nI ((10 * (sD σ e)) + p)), .int (nI 10)]) (rest := []) ⟨hx, hb, hml, hown, hts⟩ (kX5_puts l G m τ V σ ns x len B (sS σ e) ((10 * (sD σ e)) + p) 10 (by omega) (by omega) (by omega) (zD_any hD)) (cwV 3 hts gX5_settle_X5_puts rfl rfl rfl (by decide +kernel) ⟨Nat.le_of_ble_eq_true rfl, Nat.le_of_ble_eq_true rfl⟩) (zPreV hG (va_recv (q0 := 0) (ci := 5) hG.1 hP rfl rfl) (hP)) rfl rfl hl.1 rfl (lv_room (Nat.le_of_ble_eq_true rfl)) dX5_settle_194 ⟨Nat.le_of_ble_eq_true rfl, Nat.le_of_ble_eq_true rfl⟩) hP hD hS (wM_map ..) (fun H locs hP hD hS => ?_)
                            have hP : va_P G.1 vwCl (wM G m (su τ (64 + 53 * (sS σ e) + ((10 * (sD σ e)) + p)) 10) V σ ns x len B) H := hP
                            have hD : va_D (zA (wM G m σ V ζ ns x len B)) (wM G m (su τ (64 + 53 * (sS σ e) + ((10 * (sD σ e)) + p)) 10) V σ ns x len B) := hD
                            refine lv_iinc (v := nI (p + 1)) (lv' := [(7, .int (nI (p + 1))), (6, .int (nI (c + 1))), (9, .int (nI 10)), (8, .int (nI (sgn τ (sS σ e) (sD σ e) p))), (0, .ref (m 0)), (1, .int (nI e)), (2, .int (nI (fS σ e))), (3, .int (nI 1)), (4, .int (nI (sS σ e))), (5, .int (nI (sD σ e)))]) hx hb dX5_settle_197 hl (k := 9) rfl (zinc1 _) (by decide) rfl (fun ls hl => ?_)
                            refine lv_goto (tgt := 100) hx hb dX5_settle_200 (by decide) ?_
                            exact ih100 (p + 1) (su τ (64 + 53 * (sS σ e) + ((10 * (sD σ e)) + p)) 10) (c + 1) (by rw [stl, ← hτ]; exact (stS_eq hOτ (k1 := fS σ e) (d1 := fD σ e) (show sS σ e < 36 by omega) (show sD σ e < 4 by omega) (show p < 10 by omega) (nw := 10) (Or.inl ⟨hva, rfl⟩)).1) (by unfold stc at hxc ⊢; rw [sm, ← hxc, ← hτ, if_neg (fun z => h170 ((stS_eq hOτ (k1 := fS σ e) (d1 := fD σ e) (show sS σ e < 36 by omega) (show sD σ e < 4 by omega) (show p < 10 by omega) (nw := 10) (Or.inl ⟨hva, rfl⟩)).2.mpr z))]) (fun j hj => by rcases Nat.lt_succ_iff_lt_or_eq.mp hj with q | q; exact hz j q; (rw [q, ← hτ]; exact decide_eq_false (fun z => z.2.1 hva))) (hOτ.su_sg (by omega) (by omega)) (by omega) (by omega) (by omega) _ (lv_sub hl [4, 5, 6, 7, 8, 9, 1, 0] rfl) _ _ (hP) (hD) hS
                          · skip
                            have h170 : 10 = (sgn τ (sS σ e) (sD σ e) p) := (nI_eq (by omega) (by omega)).mp h170
                            refine lv_iconst (v := nI 0) hx hb dX5_settle_173 (by decide) ?_
                            refine lv_goto (tgt := 178) hx hb dX5_settle_174 (by decide) ?_
                            refine lv_iadd hx hb dX5_settle_178 ?_
                            refine lv_topi (nm_r (e' := nI (c + 0)) (nI_add _ _) ?_)
                            refine lv_istore (lv' := [(6, .int (nI (c + 0))), (9, .int (nI 10)), (8, .int (nI (sgn τ (sS σ e) (sD σ e) p))), (0, .ref (m 0)), (1, .int (nI e)), (2, .int (nI (fS σ e))), (3, .int (nI 1)), (4, .int (nI (sS σ e))), (5, .int (nI (sD σ e))), (7, .int (nI p))]) hx hb dX5_settle_179 hl (by decide) rfl (fun ls hl => ?_)
                            refine lv_aload_n hx hb dX5_settle_181 rfl (lv_at hl 3 rfl) ?_
                            refine lv_iload hx hb dX5_settle_182 (lv_at hl 7 rfl) ?_
                            refine lv_bipush (v := nI 10) hx hb dX5_settle_184 (by decide) ?_
                            refine lv_iload hx hb dX5_settle_186 (lv_at hl 8 rfl) ?_
                            refine lv_imul hx hb dX5_settle_188 ?_
                            refine lv_topi (nm_r (e' := nI (10 * (sD σ e))) (pk_mul _ _) ?_)
                            refine lv_iload hx hb dX5_settle_189 (lv_at hl 9 rfl) ?_
                            refine lv_iadd hx hb dX5_settle_191 ?_
                            refine lv_topi (nm_r (e' := nI ((10 * (sD σ e)) + p)) (nI_add _ _) ?_)
                            refine lv_iload hx hb dX5_settle_192 (lv_at hl 1 rfl) ?_
                            refine zwrWv (G := G) (wc := (wM G m τ V σ ns x len B)) (wc' := (wM G m (su τ (64 + 53 * (sS σ e) + ((10 * (sD σ e)) + p)) 10) V σ ns x len B)) (va_runV (As := [.int (nI (sS σ e)), .int (nI ((10 * (sD σ e)) + p)), .int (nI 10)]) (rest := []) ⟨hx, hb, hml, hown, hts⟩ (kX5_puts l G m τ V σ ns x len B (sS σ e) ((10 * (sD σ e)) + p) 10 (by omega) (by omega) (by omega) (zD_any hD)) (cwV 3 hts gX5_settle_X5_puts rfl rfl rfl (by decide +kernel) ⟨Nat.le_of_ble_eq_true rfl, Nat.le_of_ble_eq_true rfl⟩) (zPreV hG (va_recv (q0 := 0) (ci := 5) hG.1 hP rfl rfl) (hP)) rfl rfl hl.1 rfl (lv_room (Nat.le_of_ble_eq_true rfl)) dX5_settle_194 ⟨Nat.le_of_ble_eq_true rfl, Nat.le_of_ble_eq_true rfl⟩) hP hD hS (wM_map ..) (fun H locs hP hD hS => ?_)
                            have hP : va_P G.1 vwCl (wM G m (su τ (64 + 53 * (sS σ e) + ((10 * (sD σ e)) + p)) 10) V σ ns x len B) H := hP
                            have hD : va_D (zA (wM G m σ V ζ ns x len B)) (wM G m (su τ (64 + 53 * (sS σ e) + ((10 * (sD σ e)) + p)) 10) V σ ns x len B) := hD
                            refine lv_iinc (v := nI (p + 1)) (lv' := [(7, .int (nI (p + 1))), (6, .int (nI (c + 0))), (9, .int (nI 10)), (8, .int (nI (sgn τ (sS σ e) (sD σ e) p))), (0, .ref (m 0)), (1, .int (nI e)), (2, .int (nI (fS σ e))), (3, .int (nI 1)), (4, .int (nI (sS σ e))), (5, .int (nI (sD σ e)))]) hx hb dX5_settle_197 hl (k := 9) rfl (zinc1 _) (by decide) rfl (fun ls hl => ?_)
                            refine lv_goto (tgt := 100) hx hb dX5_settle_200 (by decide) ?_
                            exact ih100 (p + 1) (su τ (64 + 53 * (sS σ e) + ((10 * (sD σ e)) + p)) 10) (c + 0) (by rw [stl, ← hτ]; exact (stS_eq hOτ (k1 := fS σ e) (d1 := fD σ e) (show sS σ e < 36 by omega) (show sD σ e < 4 by omega) (show p < 10 by omega) (nw := 10) (Or.inl ⟨hva, rfl⟩)).1) (by unfold stc at hxc ⊢; rw [sm, ← hxc, ← hτ, if_pos ((stS_eq hOτ (k1 := fS σ e) (d1 := fD σ e) (show sS σ e < 36 by omega) (show sD σ e < 4 by omega) (show p < 10 by omega) (nw := 10) (Or.inl ⟨hva, rfl⟩)).2.mp h170)]) (fun j hj => by rcases Nat.lt_succ_iff_lt_or_eq.mp hj with q | q; exact hz j q; (rw [q, ← hτ]; exact decide_eq_false (fun z => z.2.1 hva))) (hOτ.su_sg (by omega) (by omega)) (by omega) (by omega) (by omega) _ (lv_sub hl [4, 5, 6, 7, 8, 9, 1, 0] rfl) _ _ (hP) (hD) hS
                        · skip
                          have h154 : False := (iff_of_false (z_m4 (by omega)) id).mp h154
                          exact absurd h154 id
                      · skip
                        refine zrdV (As := [.int (nI (sS σ e)), .int (nI (sgn τ (sS σ e) (sD σ e) p)), .int (nI (mns τ (fS σ e) (fD σ e) p))]) ⟨hx, hb, hml, hown, hts⟩ (kX5_signFor_s l G m τ V σ ns x len B (sS σ e) (sgn τ (sS σ e) (sD σ e) p) (mns τ (fS σ e) (fD σ e) p) (hOτ) (by omega) (hvb.2.1) (hvb.1) (hvb.2.2)) (cwV 3 hts gX5_settle_X5_signFor rfl rfl rfl (by decide +kernel) ⟨Nat.le_of_ble_eq_true rfl, Nat.le_of_ble_eq_true rfl⟩) hG (va_recv (q0 := 0) (ci := 5) hG.1 hP rfl rfl) (hP) rfl rfl hl.1 dX5_settle_145 (Nat.le_of_ble_eq_true rfl) ⟨Nat.le_of_ble_eq_true rfl, Nat.le_of_ble_eq_true rfl⟩ ?_
                        refine lv_istore (lv' := [(9, .int (nI (sgn τ (sS σ e) (sD σ e) p))), (8, .int (nI (sgn τ (sS σ e) (sD σ e) p))), (0, .ref (m 0)), (1, .int (nI e)), (2, .int (nI (fS σ e))), (3, .int (nI 1)), (4, .int (nI (sS σ e))), (5, .int (nI (sD σ e))), (6, .int (nI c)), (7, .int (nI p))]) hx hb dX5_settle_148 hl (by decide) rfl (fun ls hl => ?_)
                        refine lv_iload hx hb dX5_settle_150 (lv_at hl 0 rfl) ?_
                        refine lv_bipush (v := (-4)) hx hb dX5_settle_152 (by decide) ?_
                        refine lv_icmp_ne (tgt := 164) hx hb dX5_settle_154 (by decide) (fun h154 => ?_) (fun h154 => ?_)
                        · skip
                          have h154 : ¬ (False) := fun q => h154 ((iff_of_false (z_m4 (by omega)) id).mpr q)
                          refine lv_iload hx hb dX5_settle_164 (lv_at hl 8 rfl) ?_
                          refine lv_iload hx hb dX5_settle_166 (lv_at hl 0 rfl) ?_
                          refine lv_iload hx hb dX5_settle_168 (lv_at hl 1 rfl) ?_
                          refine lv_icmp_ne (tgt := 177) hx hb dX5_settle_170 (by decide) (fun h170 => ?_) (fun h170 => ?_)
                          · skip
                            have h170 : ¬ ((sgn τ (sS σ e) (sD σ e) p) = (sgn τ (sS σ e) (sD σ e) p)) := fun q => h170 ((nI_eq (by omega) (by omega)).mpr q)
                            refine lv_iconst (v := nI 1) hx hb dX5_settle_177 (by decide) ?_
                            refine lv_iadd hx hb dX5_settle_178 ?_
                            refine lv_topi (nm_r (e' := nI (c + 1)) (nI_add _ _) ?_)
                            refine lv_istore (lv' := [(6, .int (nI (c + 1))), (9, .int (nI (sgn τ (sS σ e) (sD σ e) p))), (8, .int (nI (sgn τ (sS σ e) (sD σ e) p))), (0, .ref (m 0)), (1, .int (nI e)), (2, .int (nI (fS σ e))), (3, .int (nI 1)), (4, .int (nI (sS σ e))), (5, .int (nI (sD σ e))), (7, .int (nI p))]) hx hb dX5_settle_179 hl (by decide) rfl (fun ls hl => ?_)
                            refine lv_aload_n hx hb dX5_settle_181 rfl (lv_at hl 3 rfl) ?_
                            refine lv_iload hx hb dX5_settle_182 (lv_at hl 7 rfl) ?_
                            refine lv_bipush (v := nI 10) hx hb dX5_settle_184 (by decide) ?_
                            refine lv_iload hx hb dX5_settle_186 (lv_at hl 8 rfl) ?_
                            refine lv_imul hx hb dX5_settle_188 ?_
                            refine lv_topi (nm_r (e' := nI (10 * (sD σ e))) (pk_mul _ _) ?_)
                            refine lv_iload hx hb dX5_settle_189 (lv_at hl 9 rfl) ?_
                            refine lv_iadd hx hb dX5_settle_191 ?_
                            refine lv_topi (nm_r (e' := nI ((10 * (sD σ e)) + p)) (nI_add _ _) ?_)
                            refine lv_iload hx hb dX5_settle_192 (lv_at hl 1 rfl) ?_
                            refine zwrWv (G := G) (wc := (wM G m τ V σ ns x len B)) (wc' := (wM G m (su τ (64 + 53 * (sS σ e) + ((10 * (sD σ e)) + p)) (sgn τ (sS σ e) (sD σ e) p)) V σ ns x len B)) (va_runV (As := [.int (nI (sS σ e)), .int (nI ((10 * (sD σ e)) + p)), .int (nI (sgn τ (sS σ e) (sD σ e) p))]) (rest := []) ⟨hx, hb, hml, hown, hts⟩ (kX5_puts l G m τ V σ ns x len B (sS σ e) ((10 * (sD σ e)) + p) (sgn τ (sS σ e) (sD σ e) p) (by omega) (by omega) (by omega) (zD_any hD)) (cwV 3 hts gX5_settle_X5_puts rfl rfl rfl (by decide +kernel) ⟨Nat.le_of_ble_eq_true rfl, Nat.le_of_ble_eq_true rfl⟩) (zPreV hG (va_recv (q0 := 0) (ci := 5) hG.1 hP rfl rfl) (hP)) rfl rfl hl.1 rfl (lv_room (Nat.le_of_ble_eq_true rfl)) dX5_settle_194 ⟨Nat.le_of_ble_eq_true rfl, Nat.le_of_ble_eq_true rfl⟩) hP hD hS (wM_map ..) (fun H locs hP hD hS => ?_)
                            have hP : va_P G.1 vwCl (wM G m (su τ (64 + 53 * (sS σ e) + ((10 * (sD σ e)) + p)) (sgn τ (sS σ e) (sD σ e) p)) V σ ns x len B) H := hP
                            have hD : va_D (zA (wM G m σ V ζ ns x len B)) (wM G m (su τ (64 + 53 * (sS σ e) + ((10 * (sD σ e)) + p)) (sgn τ (sS σ e) (sD σ e) p)) V σ ns x len B) := hD
                            refine lv_iinc (v := nI (p + 1)) (lv' := [(7, .int (nI (p + 1))), (6, .int (nI (c + 1))), (9, .int (nI (sgn τ (sS σ e) (sD σ e) p))), (8, .int (nI (sgn τ (sS σ e) (sD σ e) p))), (0, .ref (m 0)), (1, .int (nI e)), (2, .int (nI (fS σ e))), (3, .int (nI 1)), (4, .int (nI (sS σ e))), (5, .int (nI (sD σ e)))]) hx hb dX5_settle_197 hl (k := 9) rfl (zinc1 _) (by decide) rfl (fun ls hl => ?_)
                            refine lv_goto (tgt := 100) hx hb dX5_settle_200 (by decide) ?_
                            exact ih100 (p + 1) (su τ (64 + 53 * (sS σ e) + ((10 * (sD σ e)) + p)) (sgn τ (sS σ e) (sD σ e) p)) (c + 1) (by rw [stl, ← hτ]; exact (stS_eq hOτ (k1 := fS σ e) (d1 := fD σ e) (show sS σ e < 36 by omega) (show sD σ e < 4 by omega) (show p < 10 by omega) (nw := (sgn τ (sS σ e) (sD σ e) p)) (Or.inr (Or.inl ⟨by omega, hvb.2.1, hvb.2.2, rfl⟩))).1) (by unfold stc at hxc ⊢; rw [sm, ← hxc, ← hτ, if_neg (fun z => h170 ((stS_eq hOτ (k1 := fS σ e) (d1 := fD σ e) (show sS σ e < 36 by omega) (show sD σ e < 4 by omega) (show p < 10 by omega) (nw := (sgn τ (sS σ e) (sD σ e) p)) (Or.inr (Or.inl ⟨by omega, hvb.2.1, hvb.2.2, rfl⟩))).2.mpr z))]) (fun j hj => by rcases Nat.lt_succ_iff_lt_or_eq.mp hj with q | q; exact hz j q; (rw [q, ← hτ]; exact decide_eq_false (fun z => z.1 ((stS_eq hOτ (k1 := fS σ e) (d1 := fD σ e) (show sS σ e < 36 by omega) (show sD σ e < 4 by omega) (show p < 10 by omega) (nw := (sgn τ (sS σ e) (sD σ e) p)) (Or.inr (Or.inl ⟨by omega, hvb.2.1, hvb.2.2, rfl⟩))).2.mp rfl)))) (hOτ.su_sg (by omega) (by omega)) (by omega) (by omega) (by omega) _ (lv_sub hl [4, 5, 6, 7, 8, 9, 1, 0] rfl) _ _ (hP) (hD) hS
                          · skip
                            have h170 : (sgn τ (sS σ e) (sD σ e) p) = (sgn τ (sS σ e) (sD σ e) p) := (nI_eq (by omega) (by omega)).mp h170
                            refine lv_iconst (v := nI 0) hx hb dX5_settle_173 (by decide) ?_
                            refine lv_goto (tgt := 178) hx hb dX5_settle_174 (by decide) ?_
                            refine lv_iadd hx hb dX5_settle_178 ?_
                            refine lv_topi (nm_r (e' := nI (c + 0)) (nI_add _ _) ?_)
                            refine lv_istore (lv' := [(6, .int (nI (c + 0))), (9, .int (nI (sgn τ (sS σ e) (sD σ e) p))), (8, .int (nI (sgn τ (sS σ e) (sD σ e) p))), (0, .ref (m 0)), (1, .int (nI e)), (2, .int (nI (fS σ e))), (3, .int (nI 1)), (4, .int (nI (sS σ e))), (5, .int (nI (sD σ e))), (7, .int (nI p))]) hx hb dX5_settle_179 hl (by decide) rfl (fun ls hl => ?_)
                            refine lv_aload_n hx hb dX5_settle_181 rfl (lv_at hl 3 rfl) ?_
                            refine lv_iload hx hb dX5_settle_182 (lv_at hl 7 rfl) ?_
                            refine lv_bipush (v := nI 10) hx hb dX5_settle_184 (by decide) ?_
                            refine lv_iload hx hb dX5_settle_186 (lv_at hl 8 rfl) ?_
                            refine lv_imul hx hb dX5_settle_188 ?_
                            refine lv_topi (nm_r (e' := nI (10 * (sD σ e))) (pk_mul _ _) ?_)
                            refine lv_iload hx hb dX5_settle_189 (lv_at hl 9 rfl) ?_
                            refine lv_iadd hx hb dX5_settle_191 ?_
                            refine lv_topi (nm_r (e' := nI ((10 * (sD σ e)) + p)) (nI_add _ _) ?_)
                            refine lv_iload hx hb dX5_settle_192 (lv_at hl 1 rfl) ?_
                            refine zwrWv (G := G) (wc := (wM G m τ V σ ns x len B)) (wc' := (wM G m (su τ (64 + 53 * (sS σ e) + ((10 * (sD σ e)) + p)) (sgn τ (sS σ e) (sD σ e) p)) V σ ns x len B)) (va_runV (As := [.int (nI (sS σ e)), .int (nI ((10 * (sD σ e)) + p)), .int (nI (sgn τ (sS σ e) (sD σ e) p))]) (rest := []) ⟨hx, hb, hml, hown, hts⟩ (kX5_puts l G m τ V σ ns x len B (sS σ e) ((10 * (sD σ e)) + p) (sgn τ (sS σ e) (sD σ e) p) (by omega) (by omega) (by omega) (zD_any hD)) (cwV 3 hts gX5_settle_X5_puts rfl rfl rfl (by decide +kernel) ⟨Nat.le_of_ble_eq_true rfl, Nat.le_of_ble_eq_true rfl⟩) (zPreV hG (va_recv (q0 := 0) (ci := 5) hG.1 hP rfl rfl) (hP)) rfl rfl hl.1 rfl (lv_room (Nat.le_of_ble_eq_true rfl)) dX5_settle_194 ⟨Nat.le_of_ble_eq_true rfl, Nat.le_of_ble_eq_true rfl⟩) hP hD hS (wM_map ..) (fun H locs hP hD hS => ?_)
                            have hP : va_P G.1 vwCl (wM G m (su τ (64 + 53 * (sS σ e) + ((10 * (sD σ e)) + p)) (sgn τ (sS σ e) (sD σ e) p)) V σ ns x len B) H := hP
                            have hD : va_D (zA (wM G m σ V ζ ns x len B)) (wM G m (su τ (64 + 53 * (sS σ e) + ((10 * (sD σ e)) + p)) (sgn τ (sS σ e) (sD σ e) p)) V σ ns x len B) := hD
                            refine lv_iinc (v := nI (p + 1)) (lv' := [(7, .int (nI (p + 1))), (6, .int (nI (c + 0))), (9, .int (nI (sgn τ (sS σ e) (sD σ e) p))), (8, .int (nI (sgn τ (sS σ e) (sD σ e) p))), (0, .ref (m 0)), (1, .int (nI e)), (2, .int (nI (fS σ e))), (3, .int (nI 1)), (4, .int (nI (sS σ e))), (5, .int (nI (sD σ e)))]) hx hb dX5_settle_197 hl (k := 9) rfl (zinc1 _) (by decide) rfl (fun ls hl => ?_)
                            refine lv_goto (tgt := 100) hx hb dX5_settle_200 (by decide) ?_
                            exact ih100 (p + 1) (su τ (64 + 53 * (sS σ e) + ((10 * (sD σ e)) + p)) (sgn τ (sS σ e) (sD σ e) p)) (c + 0) (by rw [stl, ← hτ]; exact (stS_eq hOτ (k1 := fS σ e) (d1 := fD σ e) (show sS σ e < 36 by omega) (show sD σ e < 4 by omega) (show p < 10 by omega) (nw := (sgn τ (sS σ e) (sD σ e) p)) (Or.inr (Or.inl ⟨by omega, hvb.2.1, hvb.2.2, rfl⟩))).1) (by unfold stc at hxc ⊢; rw [sm, ← hxc, ← hτ, if_pos ((stS_eq hOτ (k1 := fS σ e) (d1 := fD σ e) (show sS σ e < 36 by omega) (show sD σ e < 4 by omega) (show p < 10 by omega) (nw := (sgn τ (sS σ e) (sD σ e) p)) (Or.inr (Or.inl ⟨by omega, hvb.2.1, hvb.2.2, rfl⟩))).2.mp h170)]) (fun j hj => by rcases Nat.lt_succ_iff_lt_or_eq.mp hj with q | q; exact hz j q; (rw [q, ← hτ]; exact decide_eq_false (fun z => z.1 ((stS_eq hOτ (k1 := fS σ e) (d1 := fD σ e) (show sS σ e < 36 by omega) (show sD σ e < 4 by omega) (show p < 10 by omega) (nw := (sgn τ (sS σ e) (sD σ e) p)) (Or.inr (Or.inl ⟨by omega, hvb.2.1, hvb.2.2, rfl⟩))).2.mp rfl)))) (hOτ.su_sg (by omega) (by omega)) (by omega) (by omega) (by omega) _ (lv_sub hl [4, 5, 6, 7, 8, 9, 1, 0] rfl) _ _ (hP) (hD) hS
                        · skip
                          have h154 : False := (iff_of_false (z_m4 (by omega)) id).mp h154
                          exact absurd h154 id
                      · skip
                        refine zrdV (As := [.int (nI (sS σ e)), .int (nI (sgn τ (sS σ e) (sD σ e) p)), .int (nI (mns τ (fS σ e) (fD σ e) p))]) ⟨hx, hb, hml, hown, hts⟩ (kX5_signFor_l l G m τ V σ ns x len B (sS σ e) (sgn τ (sS σ e) (sD σ e) p) (mns τ (fS σ e) (fD σ e) p) (hOτ) (by omega) (hs10) (hvb.1) (hvb.2)) (cwV 3 hts gX5_settle_X5_signFor rfl rfl rfl (by decide +kernel) ⟨Nat.le_of_ble_eq_true rfl, Nat.le_of_ble_eq_true rfl⟩) hG (va_recv (q0 := 0) (ci := 5) hG.1 hP rfl rfl) (hP) rfl rfl hl.1 dX5_settle_145 (Nat.le_of_ble_eq_true rfl) ⟨Nat.le_of_ble_eq_true rfl, Nat.le_of_ble_eq_true rfl⟩ ?_
                        have hf145_0 := lws_le τ ((sS σ e)) ((mns τ (fS σ e) (fD σ e) p))
                        refine lv_istore (lv' := [(9, .int (zc 10 (lws τ (sS σ e) (mns τ (fS σ e) (fD σ e) p)))), (8, .int (nI (sgn τ (sS σ e) (sD σ e) p))), (0, .ref (m 0)), (1, .int (nI e)), (2, .int (nI (fS σ e))), (3, .int (nI 1)), (4, .int (nI (sS σ e))), (5, .int (nI (sD σ e))), (6, .int (nI c)), (7, .int (nI p))]) hx hb dX5_settle_148 hl (by decide) rfl (fun ls hl => ?_)
                        refine lv_iload hx hb dX5_settle_150 (lv_at hl 0 rfl) ?_
                        refine lv_bipush (v := (-4)) hx hb dX5_settle_152 (by decide) ?_
                        refine lv_icmp_ne (tgt := 164) hx hb dX5_settle_154 (by decide) (fun h154 => ?_) (fun h154 => ?_)
                        · skip
                          have h154 : ¬ (lws τ (sS σ e) (mns τ (fS σ e) (fD σ e) p) = 10) := fun q => h154 ((zc_m4 (by omega)).mpr q)
                          rw [show zc 10 (lws τ (sS σ e) (mns τ (fS σ e) (fD σ e) p)) = nI (lws τ (sS σ e) (mns τ (fS σ e) (fD σ e) p)) from zc_n h154] at hl
                          refine lv_iload hx hb dX5_settle_164 (lv_at hl 8 rfl) ?_
                          refine lv_iload hx hb dX5_settle_166 (lv_at hl 0 rfl) ?_
                          refine lv_iload hx hb dX5_settle_168 (lv_at hl 1 rfl) ?_
                          refine lv_icmp_ne (tgt := 177) hx hb dX5_settle_170 (by decide) (fun h170 => ?_) (fun h170 => ?_)
                          · skip
                            have h170 : ¬ ((lws τ (sS σ e) (mns τ (fS σ e) (fD σ e) p)) = (sgn τ (sS σ e) (sD σ e) p)) := fun q => h170 ((nI_eq (by omega) (by omega)).mpr q)
                            refine lv_iconst (v := nI 1) hx hb dX5_settle_177 (by decide) ?_
                            refine lv_iadd hx hb dX5_settle_178 ?_
                            refine lv_topi (nm_r (e' := nI (c + 1)) (nI_add _ _) ?_)
                            refine lv_istore (lv' := [(6, .int (nI (c + 1))), (9, .int (nI (lws τ (sS σ e) (mns τ (fS σ e) (fD σ e) p)))), (8, .int (nI (sgn τ (sS σ e) (sD σ e) p))), (0, .ref (m 0)), (1, .int (nI e)), (2, .int (nI (fS σ e))), (3, .int (nI 1)), (4, .int (nI (sS σ e))), (5, .int (nI (sD σ e))), (7, .int (nI p))]) hx hb dX5_settle_179 hl (by decide) rfl (fun ls hl => ?_)
                            refine lv_aload_n hx hb dX5_settle_181 rfl (lv_at hl 3 rfl) ?_
                            refine lv_iload hx hb dX5_settle_182 (lv_at hl 7 rfl) ?_
                            refine lv_bipush (v := nI 10) hx hb dX5_settle_184 (by decide) ?_
                            refine lv_iload hx hb dX5_settle_186 (lv_at hl 8 rfl) ?_
                            refine lv_imul hx hb dX5_settle_188 ?_
                            refine lv_topi (nm_r (e' := nI (10 * (sD σ e))) (pk_mul _ _) ?_)
                            refine lv_iload hx hb dX5_settle_189 (lv_at hl 9 rfl) ?_
                            refine lv_iadd hx hb dX5_settle_191 ?_
                            refine lv_topi (nm_r (e' := nI ((10 * (sD σ e)) + p)) (nI_add _ _) ?_)
                            refine lv_iload hx hb dX5_settle_192 (lv_at hl 1 rfl) ?_
                            refine zwrWv (G := G) (wc := (wM G m τ V σ ns x len B)) (wc' := (wM G m (su τ (64 + 53 * (sS σ e) + ((10 * (sD σ e)) + p)) (lws τ (sS σ e) (mns τ (fS σ e) (fD σ e) p))) V σ ns x len B)) (va_runV (As := [.int (nI (sS σ e)), .int (nI ((10 * (sD σ e)) + p)), .int (nI (lws τ (sS σ e) (mns τ (fS σ e) (fD σ e) p)))]) (rest := []) ⟨hx, hb, hml, hown, hts⟩ (kX5_puts l G m τ V σ ns x len B (sS σ e) ((10 * (sD σ e)) + p) (lws τ (sS σ e) (mns τ (fS σ e) (fD σ e) p)) (by omega) (by omega) (by omega) (zD_any hD)) (cwV 3 hts gX5_settle_X5_puts rfl rfl rfl (by decide +kernel) ⟨Nat.le_of_ble_eq_true rfl, Nat.le_of_ble_eq_true rfl⟩) (zPreV hG (va_recv (q0 := 0) (ci := 5) hG.1 hP rfl rfl) (hP)) rfl rfl hl.1 rfl (lv_room (Nat.le_of_ble_eq_true rfl)) dX5_settle_194 ⟨Nat.le_of_ble_eq_true rfl, Nat.le_of_ble_eq_true rfl⟩) hP hD hS (wM_map ..) (fun H locs hP hD hS => ?_)
                            have hP : va_P G.1 vwCl (wM G m (su τ (64 + 53 * (sS σ e) + ((10 * (sD σ e)) + p)) (lws τ (sS σ e) (mns τ (fS σ e) (fD σ e) p))) V σ ns x len B) H := hP
                            have hD : va_D (zA (wM G m σ V ζ ns x len B)) (wM G m (su τ (64 + 53 * (sS σ e) + ((10 * (sD σ e)) + p)) (lws τ (sS σ e) (mns τ (fS σ e) (fD σ e) p))) V σ ns x len B) := hD
                            refine lv_iinc (v := nI (p + 1)) (lv' := [(7, .int (nI (p + 1))), (6, .int (nI (c + 1))), (9, .int (nI (lws τ (sS σ e) (mns τ (fS σ e) (fD σ e) p)))), (8, .int (nI (sgn τ (sS σ e) (sD σ e) p))), (0, .ref (m 0)), (1, .int (nI e)), (2, .int (nI (fS σ e))), (3, .int (nI 1)), (4, .int (nI (sS σ e))), (5, .int (nI (sD σ e)))]) hx hb dX5_settle_197 hl (k := 9) rfl (zinc1 _) (by decide) rfl (fun ls hl => ?_)
                            refine lv_goto (tgt := 100) hx hb dX5_settle_200 (by decide) ?_
                            exact ih100 (p + 1) (su τ (64 + 53 * (sS σ e) + ((10 * (sD σ e)) + p)) (lws τ (sS σ e) (mns τ (fS σ e) (fD σ e) p))) (c + 1) (by rw [stl, ← hτ]; exact (stS_eq hOτ (k1 := fS σ e) (d1 := fD σ e) (show sS σ e < 36 by omega) (show sD σ e < 4 by omega) (show p < 10 by omega) (nw := lws τ (sS σ e) (mns τ (fS σ e) (fD σ e) p)) (Or.inr (Or.inr ⟨by omega, hvb.2, rfl, h154⟩))).1) (by unfold stc at hxc ⊢; rw [sm, ← hxc, ← hτ, if_neg (fun z => h170 ((stS_eq hOτ (k1 := fS σ e) (d1 := fD σ e) (show sS σ e < 36 by omega) (show sD σ e < 4 by omega) (show p < 10 by omega) (nw := lws τ (sS σ e) (mns τ (fS σ e) (fD σ e) p)) (Or.inr (Or.inr ⟨by omega, hvb.2, rfl, h154⟩))).2.mpr z))]) (fun j hj => by rcases Nat.lt_succ_iff_lt_or_eq.mp hj with q | q; exact hz j q; (rw [q, ← hτ]; exact decide_eq_false (fun z => h154 z.2.2))) (hOτ.su_sg (by omega) (by omega)) (by omega) (by omega) (by omega) _ (lv_sub hl [4, 5, 6, 7, 8, 9, 1, 0] rfl) _ _ (hP) (hD) hS
                          · skip
                            have h170 : (lws τ (sS σ e) (mns τ (fS σ e) (fD σ e) p)) = (sgn τ (sS σ e) (sD σ e) p) := (nI_eq (by omega) (by omega)).mp h170
                            refine lv_iconst (v := nI 0) hx hb dX5_settle_173 (by decide) ?_
                            refine lv_goto (tgt := 178) hx hb dX5_settle_174 (by decide) ?_
                            refine lv_iadd hx hb dX5_settle_178 ?_
                            refine lv_topi (nm_r (e' := nI (c + 0)) (nI_add _ _) ?_)
                            refine lv_istore (lv' := [(6, .int (nI (c + 0))), (9, .int (nI (lws τ (sS σ e) (mns τ (fS σ e) (fD σ e) p)))), (8, .int (nI (sgn τ (sS σ e) (sD σ e) p))), (0, .ref (m 0)), (1, .int (nI e)), (2, .int (nI (fS σ e))), (3, .int (nI 1)), (4, .int (nI (sS σ e))), (5, .int (nI (sD σ e))), (7, .int (nI p))]) hx hb dX5_settle_179 hl (by decide) rfl (fun ls hl => ?_)
                            refine lv_aload_n hx hb dX5_settle_181 rfl (lv_at hl 3 rfl) ?_
                            refine lv_iload hx hb dX5_settle_182 (lv_at hl 7 rfl) ?_
                            refine lv_bipush (v := nI 10) hx hb dX5_settle_184 (by decide) ?_
                            refine lv_iload hx hb dX5_settle_186 (lv_at hl 8 rfl) ?_
                            refine lv_imul hx hb dX5_settle_188 ?_
                            refine lv_topi (nm_r (e' := nI (10 * (sD σ e))) (pk_mul _ _) ?_)
                            refine lv_iload hx hb dX5_settle_189 (lv_at hl 9 rfl) ?_
                            refine lv_iadd hx hb dX5_settle_191 ?_
                            refine lv_topi (nm_r (e' := nI ((10 * (sD σ e)) + p)) (nI_add _ _) ?_)
                            refine lv_iload hx hb dX5_settle_192 (lv_at hl 1 rfl) ?_
                            refine zwrWv (G := G) (wc := (wM G m τ V σ ns x len B)) (wc' := (wM G m (su τ (64 + 53 * (sS σ e) + ((10 * (sD σ e)) + p)) (lws τ (sS σ e) (mns τ (fS σ e) (fD σ e) p))) V σ ns x len B)) (va_runV (As := [.int (nI (sS σ e)), .int (nI ((10 * (sD σ e)) + p)), .int (nI (lws τ (sS σ e) (mns τ (fS σ e) (fD σ e) p)))]) (rest := []) ⟨hx, hb, hml, hown, hts⟩ (kX5_puts l G m τ V σ ns x len B (sS σ e) ((10 * (sD σ e)) + p) (lws τ (sS σ e) (mns τ (fS σ e) (fD σ e) p)) (by omega) (by omega) (by omega) (zD_any hD)) (cwV 3 hts gX5_settle_X5_puts rfl rfl rfl (by decide +kernel) ⟨Nat.le_of_ble_eq_true rfl, Nat.le_of_ble_eq_true rfl⟩) (zPreV hG (va_recv (q0 := 0) (ci := 5) hG.1 hP rfl rfl) (hP)) rfl rfl hl.1 rfl (lv_room (Nat.le_of_ble_eq_true rfl)) dX5_settle_194 ⟨Nat.le_of_ble_eq_true rfl, Nat.le_of_ble_eq_true rfl⟩) hP hD hS (wM_map ..) (fun H locs hP hD hS => ?_)
                            have hP : va_P G.1 vwCl (wM G m (su τ (64 + 53 * (sS σ e) + ((10 * (sD σ e)) + p)) (lws τ (sS σ e) (mns τ (fS σ e) (fD σ e) p))) V σ ns x len B) H := hP
                            have hD : va_D (zA (wM G m σ V ζ ns x len B)) (wM G m (su τ (64 + 53 * (sS σ e) + ((10 * (sD σ e)) + p)) (lws τ (sS σ e) (mns τ (fS σ e) (fD σ e) p))) V σ ns x len B) := hD
                            refine lv_iinc (v := nI (p + 1)) (lv' := [(7, .int (nI (p + 1))), (6, .int (nI (c + 0))), (9, .int (nI (lws τ (sS σ e) (mns τ (fS σ e) (fD σ e) p)))), (8, .int (nI (sgn τ (sS σ e) (sD σ e) p))), (0, .ref (m 0)), (1, .int (nI e)), (2, .int (nI (fS σ e))), (3, .int (nI 1)), (4, .int (nI (sS σ e))), (5, .int (nI (sD σ e)))]) hx hb dX5_settle_197 hl (k := 9) rfl (zinc1 _) (by decide) rfl (fun ls hl => ?_)
                            refine lv_goto (tgt := 100) hx hb dX5_settle_200 (by decide) ?_
                            exact ih100 (p + 1) (su τ (64 + 53 * (sS σ e) + ((10 * (sD σ e)) + p)) (lws τ (sS σ e) (mns τ (fS σ e) (fD σ e) p))) (c + 0) (by rw [stl, ← hτ]; exact (stS_eq hOτ (k1 := fS σ e) (d1 := fD σ e) (show sS σ e < 36 by omega) (show sD σ e < 4 by omega) (show p < 10 by omega) (nw := lws τ (sS σ e) (mns τ (fS σ e) (fD σ e) p)) (Or.inr (Or.inr ⟨by omega, hvb.2, rfl, h154⟩))).1) (by unfold stc at hxc ⊢; rw [sm, ← hxc, ← hτ, if_pos ((stS_eq hOτ (k1 := fS σ e) (d1 := fD σ e) (show sS σ e < 36 by omega) (show sD σ e < 4 by omega) (show p < 10 by omega) (nw := lws τ (sS σ e) (mns τ (fS σ e) (fD σ e) p)) (Or.inr (Or.inr ⟨by omega, hvb.2, rfl, h154⟩))).2.mp h170)]) (fun j hj => by rcases Nat.lt_succ_iff_lt_or_eq.mp hj with q | q; exact hz j q; (rw [q, ← hτ]; exact decide_eq_false (fun z => h154 z.2.2))) (hOτ.su_sg (by omega) (by omega)) (by omega) (by omega) (by omega) _ (lv_sub hl [4, 5, 6, 7, 8, 9, 1, 0] rfl) _ _ (hP) (hD) hS
                        · skip
                          have h154 : lws τ (sS σ e) (mns τ (fS σ e) (fD σ e) p) = 10 := (zc_m4 (by omega)).mp h154
                          exfalso; have hB : sbd σ (fS σ e) (fD σ e) (sS σ e) (sD σ e) = p := fst1_at (by omega) hz (by rw [← hτ]; exact decide_eq_true ⟨fun z => by have hm := mns_10 hOτ (show sS σ e < 36 by omega) (show sD σ e < 4 by omega) (show p < 10 by omega); by_cases y : sgn τ (sS σ e) (sD σ e) p = 10; (have := hm.mpr y; omega); (unfold mns at z; rw [if_neg y] at z; exact hvb.2 ⟨by omega, z.symm⟩), by omega, h154⟩); omega
              exact loop100 11 0 σ 0 (rfl) (rfl) (fun j hj => absurd hj (Nat.not_lt_zero j)) (hO) (by omega) (by omega) (by omega) _ (lv_sub hl [5, 6, 7, 4, 3, 2, 1, 0] rfl) _ _ (hP) (hD) hS
            · skip
              have h84 : (fD σ e) = 1 := (nI_eq (by omega) (by omega)).mp h84
              refine lv_iconst (v := nI 3) hx hb dX5_settle_87 (by decide) ?_
              refine lv_goto (tgt := 92) hx hb dX5_settle_88 (by decide) ?_
              refine lv_topi (nm_r (e' := nI (sD σ e)) (congrArg nI (by unfold sD; rw [if_pos (by unfold fD at h84; split at h84 <;> omega)])) ?_)
              refine lv_istore (lv' := [(5, .int (nI (sD σ e))), (4, .int (nI (sS σ e))), (3, .int (nI 1)), (0, .ref (m 0)), (1, .int (nI e)), (2, .int (nI (fS σ e)))]) hx hb dX5_settle_92 hl (by decide) rfl (fun ls hl => ?_)
              refine lv_iconst (v := nI 0) hx hb dX5_settle_94 (by decide) ?_
              refine lv_istore (lv' := [(6, .int (nI 0)), (5, .int (nI (sD σ e))), (4, .int (nI (sS σ e))), (3, .int (nI 1)), (0, .ref (m 0)), (1, .int (nI e)), (2, .int (nI (fS σ e)))]) hx hb dX5_settle_95 hl (by decide) rfl (fun ls hl => ?_)
              refine lv_iconst (v := nI 0) hx hb dX5_settle_97 (by decide) ?_
              refine lv_istore (lv' := [(7, .int (nI 0)), (6, .int (nI 0)), (5, .int (nI (sD σ e))), (4, .int (nI (sS σ e))), (3, .int (nI 1)), (0, .ref (m 0)), (1, .int (nI e)), (2, .int (nI (fS σ e)))]) hx hb dX5_settle_98 hl (by decide) rfl (fun ls hl => ?_)
              have loop100 : ∀ (n : Nat) (p : Nat) (τ : Nat → Nat) (c : Nat) (hτ : τ = stl σ (fS σ e) (fD σ e) (sS σ e) (sD σ e) p) (hxc : c = stc σ (fS σ e) (fD σ e) (sS σ e) (sD σ e) p) (hz : ∀ j, j < p → sBad (stl σ (fS σ e) (fD σ e) (sS σ e) (sD σ e) j) (fS σ e) (fD σ e) (sS σ e) (sD σ e) j = false) (hOτ : Ok N τ) (hp : p ≤ 10) (hcp : c ≤ p) (hn : 10 < p + n) (ls : Array Slot) (hl : lv_has ls 10 [(0, .ref (m 0)), (1, .int (nI e)), (2, .int (nI (fS σ e))), (3, .int (nI 1)), (4, .int (nI (sS σ e))), (5, .int (nI (sD σ e))), (6, .int (nI c)), (7, .int (nI p))]) (H : Heap) (locs : List Loc) (hP : va_P G.1 vwCl (wM G m τ V σ ns x len B) H) (hD : va_D (zA (wM G m σ V ζ ns x len B)) (wM G m τ V σ ns x len B)) (hS : va_S (zA (wM G m σ V ζ ns x len B)) st.heap H locs), W pr l en (zRm 4 91) st mi ar bl me cd H locs 0 0 Q (F0 mi 100 ls []) := by
                intro n
                induction n with
                | zero => intro p τ c hτ hxc hz hOτ hp hcp hn ls hl H locs hP hD hS; exfalso; omega
                | succ n ih100 =>
                  intro p τ c hτ hxc hz hOτ hp hcp hn ls hl H locs hP hD hS
                  refine lv_iload hx hb dX5_settle_100 (lv_at hl 7 rfl) ?_
                  refine lv_bipush (v := nI 10) hx hb dX5_settle_102 (by decide) ?_
                  refine lv_icmp_ge (tgt := 203) hx hb dX5_settle_104 (by decide) (fun h104 => ?_) (fun h104 => ?_)
                  · skip
                    have h104 : 10 ≤ p := (nI_leI (by omega) (by omega)).mp h104
                    obtain rfl : p = 10 := (by omega)
                    refine lv_iload hx hb dX5_settle_203 (lv_at hl 6 rfl) ?_
                    refine lv_if_le (tgt := 214) hx hb dX5_settle_205 (by decide) (fun h205 => ?_) (fun h205 => ?_)
                    · skip
                      have h205 : c = 0 := (z_le0 (by omega)).mp h205
                      refine lv_aload_n hx hb dX5_settle_214 rfl (lv_at hl 0 rfl) ?_
                      refine lv_iload hx hb dX5_settle_215 (lv_at hl 6 rfl) ?_
                      refine zwrW (G := G) (wc := (wM G m τ V σ ns x len B)) (wc' := (wM G m τ (updv V ns σ) σ (nN ns) x len B)) (va_runV (As := [.int (nI c)]) (rest := []) ⟨hx, hb, hml, hown, hts⟩ (kX5_records l G m τ V σ ns x len B (nI c) (by omega) (zD_any hD)) (cwV 1 hts gX5_settle_X5_records rfl rfl rfl (by decide +kernel) ⟨Nat.le_of_ble_eq_true rfl, Nat.le_of_ble_eq_true rfl⟩) (zPreV hG (va_recv (q0 := 0) (ci := 5) hG.1 hP rfl rfl) (hP)) rfl rfl hl.1 rfl (lv_room (Nat.le_of_ble_eq_true rfl)) dX5_settle_217 ⟨Nat.le_of_ble_eq_true rfl, Nat.le_of_ble_eq_true rfl⟩) hP hD hS (wM_map ..) (fun H locs hP hD hS => ?_)
                      have hP : va_P G.1 vwCl (wM G m τ (updv V ns σ) σ (nN ns) x len B) H := hP
                      have hD : va_D (zA (wM G m σ V ζ ns x len B)) (wM G m τ (updv V ns σ) σ (nN ns) x len B) := hD
                      exact hret _ _ _ _ _ dX5_settle_220 hS (by rw [show stE σ (fS σ e) (fD σ e) (sS σ e) (sD σ e) = _ from if_neg (by rw [← hxc]; omega), ← hτ]; exact hP) (by rw [← hxc])
                    · skip
                      have h205 : ¬ (c = 0) := fun q => h205 ((z_le0 (by omega)).mpr q)
                      have h205 : 0 < c := Nat.pos_of_ne_zero h205
                      refine lv_aload_n hx hb dX5_settle_208 rfl (lv_at hl 0 rfl) ?_
                      refine lv_iload hx hb dX5_settle_209 (lv_at hl 4 rfl) ?_
                      refine zwrWv (G := G) (wc := (wM G m τ V σ ns x len B)) (wc' := (wM G m (su τ (114 + 53 * (sS σ e)) (rvn τ (sS σ e) + 1)) V σ ns x len B)) (va_runV (As := [.int (nI (sS σ e))]) (rest := []) ⟨hx, hb, hml, hown, hts⟩ (kX5_revises l G m τ V σ ns x len B (sS σ e) (by omega) (zD_any hD)) (cwV 1 hts gX5_settle_X5_revises rfl rfl rfl (by decide +kernel) ⟨Nat.le_of_ble_eq_true rfl, Nat.le_of_ble_eq_true rfl⟩) (zPreV hG (va_recv (q0 := 0) (ci := 5) hG.1 hP rfl rfl) (hP)) rfl rfl hl.1 rfl (lv_room (Nat.le_of_ble_eq_true rfl)) dX5_settle_211 ⟨Nat.le_of_ble_eq_true rfl, Nat.le_of_ble_eq_true rfl⟩) hP hD hS (wM_map ..) (fun H locs hP hD hS => ?_)
                      have hP : va_P G.1 vwCl (wM G m (su τ (114 + 53 * (sS σ e)) (rvn τ (sS σ e) + 1)) V σ ns x len B) H := hP
                      have hD : va_D (zA (wM G m σ V ζ ns x len B)) (wM G m (su τ (114 + 53 * (sS σ e)) (rvn τ (sS σ e) + 1)) V σ ns x len B) := hD
                      refine lv_aload_n hx hb dX5_settle_214 rfl (lv_at hl 0 rfl) ?_
                      refine lv_iload hx hb dX5_settle_215 (lv_at hl 6 rfl) ?_
                      refine zwrW (G := G) (wc := (wM G m (su τ (114 + 53 * (sS σ e)) (rvn τ (sS σ e) + 1)) V σ ns x len B)) (wc' := (wM G m (su τ (114 + 53 * (sS σ e)) (rvn τ (sS σ e) + 1)) (updv V ns σ) σ (nN ns) x len B)) (va_runV (As := [.int (nI c)]) (rest := []) ⟨hx, hb, hml, hown, hts⟩ (kX5_records l G m (su τ (114 + 53 * (sS σ e)) (rvn τ (sS σ e) + 1)) V σ ns x len B (nI c) (by omega) (zD_any hD)) (cwV 1 hts gX5_settle_X5_records rfl rfl rfl (by decide +kernel) ⟨Nat.le_of_ble_eq_true rfl, Nat.le_of_ble_eq_true rfl⟩) (zPreV hG (va_recv (q0 := 0) (ci := 5) hG.1 hP rfl rfl) (hP)) rfl rfl hl.1 rfl (lv_room (Nat.le_of_ble_eq_true rfl)) dX5_settle_217 ⟨Nat.le_of_ble_eq_true rfl, Nat.le_of_ble_eq_true rfl⟩) hP hD hS (wM_map ..) (fun H locs hP hD hS => ?_)
                      have hP : va_P G.1 vwCl (wM G m (su τ (114 + 53 * (sS σ e)) (rvn τ (sS σ e) + 1)) (updv V ns σ) σ (nN ns) x len B) H := hP
                      have hD : va_D (zA (wM G m σ V ζ ns x len B)) (wM G m (su τ (114 + 53 * (sS σ e)) (rvn τ (sS σ e) + 1)) (updv V ns σ) σ (nN ns) x len B) := hD
                      exact hret _ _ _ _ _ dX5_settle_220 hS (by rw [show stE σ (fS σ e) (fD σ e) (sS σ e) (sD σ e) = _ from if_pos (by rw [← hxc]; omega), ← hτ]; exact hP) (by rw [← hxc])
                  · skip
                    have h104 : ¬ (10 ≤ p) := fun q => h104 ((nI_leI (by omega) (by omega)).mpr q)
                    have t0 : τ 0 = σ 0 := by rw [hτ]; exact stl_lo (by omega) p
                    have t1 : τ 1 = σ 1 := by rw [hτ]; exact stl_lo (by omega) p
                    have tE := nE_lo t0 t1
                    have tf := fS_lo t0 t1 e
                    have ts := sS_lo t0 t1 e
                    have tfd := fD_lo t0 t1 e
                    have tsd := sD_lo t0 t1 e
                    refine lv_aload_n hx hb dX5_settle_107 rfl (lv_at hl 0 rfl) ?_
                    refine lv_iload hx hb dX5_settle_108 (lv_at hl 4 rfl) ?_
                    refine lv_iload hx hb dX5_settle_110 (lv_at hl 5 rfl) ?_
                    refine lv_iload hx hb dX5_settle_112 (lv_at hl 7 rfl) ?_
                    refine zrdV (As := [.int (nI (sS σ e)), .int (nI (sD σ e)), .int (nI p)]) ⟨hx, hb, hml, hown, hts⟩ (kX5_signAt l G m τ V σ ns x len B (sS σ e) (sD σ e) p (by omega) (by omega) (by omega)) (cwV 3 hts gX5_settle_X5_signAt rfl rfl rfl (by decide +kernel) ⟨Nat.le_of_ble_eq_true rfl, Nat.le_of_ble_eq_true rfl⟩) hG (va_recv (q0 := 0) (ci := 5) hG.1 hP rfl rfl) (hP) rfl rfl hl.1 dX5_settle_114 (Nat.le_of_ble_eq_true rfl) ⟨Nat.le_of_ble_eq_true rfl, Nat.le_of_ble_eq_true rfl⟩ ?_
                    refine lv_istore (lv' := [(8, .int (nI (sgn τ (sS σ e) (sD σ e) p))), (0, .ref (m 0)), (1, .int (nI e)), (2, .int (nI (fS σ e))), (3, .int (nI 1)), (4, .int (nI (sS σ e))), (5, .int (nI (sD σ e))), (6, .int (nI c)), (7, .int (nI p))]) hx hb dX5_settle_117 hl (by decide) rfl (fun ls hl => ?_)
                    refine lv_aload_n hx hb dX5_settle_119 rfl (lv_at hl 1 rfl) ?_
                    refine lv_iload hx hb dX5_settle_120 (lv_at hl 5 rfl) ?_
                    refine lv_iload hx hb dX5_settle_122 (lv_at hl 0 rfl) ?_
                    refine lv_iload_n hx hb dX5_settle_124 rfl (lv_at hl 4 rfl) ?_
                    refine lv_if_eq (tgt := 138) hx hb dX5_settle_125 (by decide) (fun h125 => ?_) (fun h125 => ?_)
                    · skip
                      have h125 : 1 = 0 := (z_eq0 (by omega)).mp h125
                      exfalso; omega
                    · skip
                      have h125 : ¬ (1 = 0) := fun q => h125 ((z_eq0 (by omega)).mpr q)
                      have h125 : 0 < 1 := Nat.pos_of_ne_zero h125
                      refine lv_aload_n hx hb dX5_settle_128 rfl (lv_at hl 1 rfl) ?_
                      refine lv_iload_n hx hb dX5_settle_129 rfl (lv_at hl 2 rfl) ?_
                      refine lv_iload hx hb dX5_settle_130 (lv_at hl 8 rfl) ?_
                      refine zrdV (As := [.int (nI e), .int (nI p)]) ⟨hx, hb, hml, hown, hts⟩ (kX5_firstMeans l G m τ V σ ns x len B e p (hOτ) (by omega) (by omega)) (cwV 2 hts gX5_settle_X5_firstMeans rfl rfl rfl (by decide +kernel) ⟨Nat.le_of_ble_eq_true rfl, Nat.le_of_ble_eq_true rfl⟩) hG (va_recv (q0 := 0) (ci := 5) hG.1 hP rfl rfl) (hP) rfl rfl hl.1 dX5_settle_132 (Nat.le_of_ble_eq_true rfl) ⟨Nat.le_of_ble_eq_true rfl, Nat.le_of_ble_eq_true rfl⟩ ?_
                      have hf132_0 := hOτ.mn (show fS τ (e) < 36 by have := hOτ.lF (show e < nE τ by omega); omega) (fD_lt τ (e)) (show p < 10 by omega)
                      refine lv_topi (nm_r (e' := nI (mns τ (fS σ e) (fD σ e) p)) (by rw [tf, tfd]) ?_)
                      refine lv_goto (tgt := 145) hx hb dX5_settle_135 (by decide) ?_
                      have hv10 := hOτ.mn (show fS σ e < 36 by omega) (show fD σ e < 4 by omega) (show p < 10 by omega)
                      have hs10 := hOτ.sg (show sS σ e < 36 by omega) (show sD σ e < 4 by omega) (show p < 10 by omega)
                      rcases (show mns τ (fS σ e) (fD σ e) p = 10 ∨ (mns τ (fS σ e) (fD σ e) p < 10 ∧ (sgn τ (sS σ e) (sD σ e) p < 10 ∧ mng τ (sS σ e) (sgn τ (sS σ e) (sD σ e) p) = mns τ (fS σ e) (fD σ e) p)) ∨ (mns τ (fS σ e) (fD σ e) p < 10 ∧ ¬ (sgn τ (sS σ e) (sD σ e) p < 10 ∧ mng τ (sS σ e) (sgn τ (sS σ e) (sD σ e) p) = mns τ (fS σ e) (fD σ e) p)) by by_cases z : mns τ (fS σ e) (fD σ e) p = 10; exact Or.inl z; right; by_cases y : sgn τ (sS σ e) (sD σ e) p < 10 ∧ mng τ (sS σ e) (sgn τ (sS σ e) (sD σ e) p) = mns τ (fS σ e) (fD σ e) p; exact Or.inl ⟨by omega, y⟩; exact Or.inr ⟨by omega, y⟩) with hva | hvb | hvb
                      · skip
                        rw [show nI (mns τ (fS σ e) (fD σ e) p) = nI 10 by rw [hva]]
                        refine zrdV (As := [.int (nI (sS σ e)), .int (nI (sgn τ (sS σ e) (sD σ e) p)), .int (nI 10)]) ⟨hx, hb, hml, hown, hts⟩ (kX5_signFor_10 l G m τ V σ ns x len B (sS σ e) (sgn τ (sS σ e) (sD σ e) p)) (cwV 3 hts gX5_settle_X5_signFor rfl rfl rfl (by decide +kernel) ⟨Nat.le_of_ble_eq_true rfl, Nat.le_of_ble_eq_true rfl⟩) hG (va_recv (q0 := 0) (ci := 5) hG.1 hP rfl rfl) (hP) rfl rfl hl.1 dX5_settle_145 (Nat.le_of_ble_eq_true rfl) ⟨Nat.le_of_ble_eq_true rfl, Nat.le_of_ble_eq_true rfl⟩ ?_
                        refine lv_istore (lv' := [(9, .int (nI 10)), (8, .int (nI (sgn τ (sS σ e) (sD σ e) p))), (0, .ref (m 0)), (1, .int (nI e)), (2, .int (nI (fS σ e))), (3, .int (nI 1)), (4, .int (nI (sS σ e))), (5, .int (nI (sD σ e))), (6, .int (nI c)), (7, .int (nI p))]) hx hb dX5_settle_148 hl (by decide) rfl (fun ls hl => ?_)
                        refine lv_iload hx hb dX5_settle_150 (lv_at hl 0 rfl) ?_
                        refine lv_bipush (v := (-4)) hx hb dX5_settle_152 (by decide) ?_
                        refine lv_icmp_ne (tgt := 164) hx hb dX5_settle_154 (by decide) (fun h154 => ?_) (fun h154 => ?_)
                        · skip
                          have h154 : ¬ (False) := fun q => h154 ((iff_of_false (z_m4 (by omega)) id).mpr q)
                          refine lv_iload hx hb dX5_settle_164 (lv_at hl 8 rfl) ?_
                          refine lv_iload hx hb dX5_settle_166 (lv_at hl 0 rfl) ?_
                          refine lv_iload hx hb dX5_settle_168 (lv_at hl 1 rfl) ?_
                          refine lv_icmp_ne (tgt := 177) hx hb dX5_settle_170 (by decide) (fun h170 => ?_) (fun h170 => ?_)
                          · skip
                            have h170 : ¬ (10 = (sgn τ (sS σ e) (sD σ e) p)) := fun q => h170 ((nI_eq (by omega) (by omega)).mpr q)
                            refine lv_iconst (v := nI 1) hx hb dX5_settle_177 (by decide) ?_
                            refine lv_iadd hx hb dX5_settle_178 ?_
                            refine lv_topi (nm_r (e' := nI (c + 1)) (nI_add _ _) ?_)
                            refine lv_istore (lv' := [(6, .int (nI (c + 1))), (9, .int (nI 10)), (8, .int (nI (sgn τ (sS σ e) (sD σ e) p))), (0, .ref (m 0)), (1, .int (nI e)), (2, .int (nI (fS σ e))), (3, .int (nI 1)), (4, .int (nI (sS σ e))), (5, .int (nI (sD σ e))), (7, .int (nI p))]) hx hb dX5_settle_179 hl (by decide) rfl (fun ls hl => ?_)
                            refine lv_aload_n hx hb dX5_settle_181 rfl (lv_at hl 3 rfl) ?_
                            refine lv_iload hx hb dX5_settle_182 (lv_at hl 7 rfl) ?_
                            refine lv_bipush (v := nI 10) hx hb dX5_settle_184 (by decide) ?_
                            refine lv_iload hx hb dX5_settle_186 (lv_at hl 8 rfl) ?_
                            refine lv_imul hx hb dX5_settle_188 ?_
                            refine lv_topi (nm_r (e' := nI (10 * (sD σ e))) (pk_mul _ _) ?_)
                            refine lv_iload hx hb dX5_settle_189 (lv_at hl 9 rfl) ?_
                            refine lv_iadd hx hb dX5_settle_191 ?_
                            refine lv_topi (nm_r (e' := nI ((10 * (sD σ e)) + p)) (nI_add _ _) ?_)
                            refine lv_iload hx hb dX5_settle_192 (lv_at hl 1 rfl) ?_
                            refine zwrWv (G := G) (wc := (wM G m τ V σ ns x len B)) (wc' := (wM G m (su τ (64 + 53 * (sS σ e) + ((10 * (sD σ e)) + p)) 10) V σ ns x len B)) (va_runV (As := [.int (nI (sS σ e)), .int (nI ((10 * (sD σ e)) + p)), .int (nI 10)]) (rest := []) ⟨hx, hb, hml, hown, hts⟩ (kX5_puts l G m τ V σ ns x len B (sS σ e) ((10 * (sD σ e)) + p) 10 (by omega) (by omega) (by omega) (zD_any hD)) (cwV 3 hts gX5_settle_X5_puts rfl rfl rfl (by decide +kernel) ⟨Nat.le_of_ble_eq_true rfl, Nat.le_of_ble_eq_true rfl⟩) (zPreV hG (va_recv (q0 := 0) (ci := 5) hG.1 hP rfl rfl) (hP)) rfl rfl hl.1 rfl (lv_room (Nat.le_of_ble_eq_true rfl)) dX5_settle_194 ⟨Nat.le_of_ble_eq_true rfl, Nat.le_of_ble_eq_true rfl⟩) hP hD hS (wM_map ..) (fun H locs hP hD hS => ?_)
                            have hP : va_P G.1 vwCl (wM G m (su τ (64 + 53 * (sS σ e) + ((10 * (sD σ e)) + p)) 10) V σ ns x len B) H := hP
                            have hD : va_D (zA (wM G m σ V ζ ns x len B)) (wM G m (su τ (64 + 53 * (sS σ e) + ((10 * (sD σ e)) + p)) 10) V σ ns x len B) := hD
                            refine lv_iinc (v := nI (p + 1)) (lv' := [(7, .int (nI (p + 1))), (6, .int (nI (c + 1))), (9, .int (nI 10)), (8, .int (nI (sgn τ (sS σ e) (sD σ e) p))), (0, .ref (m 0)), (1, .int (nI e)), (2, .int (nI (fS σ e))), (3, .int (nI 1)), (4, .int (nI (sS σ e))), (5, .int (nI (sD σ e)))]) hx hb dX5_settle_197 hl (k := 9) rfl (zinc1 _) (by decide) rfl (fun ls hl => ?_)
                            refine lv_goto (tgt := 100) hx hb dX5_settle_200 (by decide) ?_
                            exact ih100 (p + 1) (su τ (64 + 53 * (sS σ e) + ((10 * (sD σ e)) + p)) 10) (c + 1) (by rw [stl, ← hτ]; exact (stS_eq hOτ (k1 := fS σ e) (d1 := fD σ e) (show sS σ e < 36 by omega) (show sD σ e < 4 by omega) (show p < 10 by omega) (nw := 10) (Or.inl ⟨hva, rfl⟩)).1) (by unfold stc at hxc ⊢; rw [sm, ← hxc, ← hτ, if_neg (fun z => h170 ((stS_eq hOτ (k1 := fS σ e) (d1 := fD σ e) (show sS σ e < 36 by omega) (show sD σ e < 4 by omega) (show p < 10 by omega) (nw := 10) (Or.inl ⟨hva, rfl⟩)).2.mpr z))]) (fun j hj => by rcases Nat.lt_succ_iff_lt_or_eq.mp hj with q | q; exact hz j q; (rw [q, ← hτ]; exact decide_eq_false (fun z => z.2.1 hva))) (hOτ.su_sg (by omega) (by omega)) (by omega) (by omega) (by omega) _ (lv_sub hl [4, 5, 6, 7, 8, 9, 1, 0] rfl) _ _ (hP) (hD) hS
                          · skip
                            have h170 : 10 = (sgn τ (sS σ e) (sD σ e) p) := (nI_eq (by omega) (by omega)).mp h170
                            refine lv_iconst (v := nI 0) hx hb dX5_settle_173 (by decide) ?_
                            refine lv_goto (tgt := 178) hx hb dX5_settle_174 (by decide) ?_
                            refine lv_iadd hx hb dX5_settle_178 ?_
                            refine lv_topi (nm_r (e' := nI (c + 0)) (nI_add _ _) ?_)
                            refine lv_istore (lv' := [(6, .int (nI (c + 0))), (9, .int (nI 10)), (8, .int (nI (sgn τ (sS σ e) (sD σ e) p))), (0, .ref (m 0)), (1, .int (nI e)), (2, .int (nI (fS σ e))), (3, .int (nI 1)), (4, .int (nI (sS σ e))), (5, .int (nI (sD σ e))), (7, .int (nI p))]) hx hb dX5_settle_179 hl (by decide) rfl (fun ls hl => ?_)
                            refine lv_aload_n hx hb dX5_settle_181 rfl (lv_at hl 3 rfl) ?_
                            refine lv_iload hx hb dX5_settle_182 (lv_at hl 7 rfl) ?_
                            refine lv_bipush (v := nI 10) hx hb dX5_settle_184 (by decide) ?_
                            refine lv_iload hx hb dX5_settle_186 (lv_at hl 8 rfl) ?_
                            refine lv_imul hx hb dX5_settle_188 ?_
                            refine lv_topi (nm_r (e' := nI (10 * (sD σ e))) (pk_mul _ _) ?_)
                            refine lv_iload hx hb dX5_settle_189 (lv_at hl 9 rfl) ?_
                            refine lv_iadd hx hb dX5_settle_191 ?_
                            refine lv_topi (nm_r (e' := nI ((10 * (sD σ e)) + p)) (nI_add _ _) ?_)
                            refine lv_iload hx hb dX5_settle_192 (lv_at hl 1 rfl) ?_
                            refine zwrWv (G := G) (wc := (wM G m τ V σ ns x len B)) (wc' := (wM G m (su τ (64 + 53 * (sS σ e) + ((10 * (sD σ e)) + p)) 10) V σ ns x len B)) (va_runV (As := [.int (nI (sS σ e)), .int (nI ((10 * (sD σ e)) + p)), .int (nI 10)]) (rest := []) ⟨hx, hb, hml, hown, hts⟩ (kX5_puts l G m τ V σ ns x len B (sS σ e) ((10 * (sD σ e)) + p) 10 (by omega) (by omega) (by omega) (zD_any hD)) (cwV 3 hts gX5_settle_X5_puts rfl rfl rfl (by decide +kernel) ⟨Nat.le_of_ble_eq_true rfl, Nat.le_of_ble_eq_true rfl⟩) (zPreV hG (va_recv (q0 := 0) (ci := 5) hG.1 hP rfl rfl) (hP)) rfl rfl hl.1 rfl (lv_room (Nat.le_of_ble_eq_true rfl)) dX5_settle_194 ⟨Nat.le_of_ble_eq_true rfl, Nat.le_of_ble_eq_true rfl⟩) hP hD hS (wM_map ..) (fun H locs hP hD hS => ?_)
                            have hP : va_P G.1 vwCl (wM G m (su τ (64 + 53 * (sS σ e) + ((10 * (sD σ e)) + p)) 10) V σ ns x len B) H := hP
                            have hD : va_D (zA (wM G m σ V ζ ns x len B)) (wM G m (su τ (64 + 53 * (sS σ e) + ((10 * (sD σ e)) + p)) 10) V σ ns x len B) := hD
                            refine lv_iinc (v := nI (p + 1)) (lv' := [(7, .int (nI (p + 1))), (6, .int (nI (c + 0))), (9, .int (nI 10)), (8, .int (nI (sgn τ (sS σ e) (sD σ e) p))), (0, .ref (m 0)), (1, .int (nI e)), (2, .int (nI (fS σ e))), (3, .int (nI 1)), (4, .int (nI (sS σ e))), (5, .int (nI (sD σ e)))]) hx hb dX5_settle_197 hl (k := 9) rfl (zinc1 _) (by decide) rfl (fun ls hl => ?_)
                            refine lv_goto (tgt := 100) hx hb dX5_settle_200 (by decide) ?_
                            exact ih100 (p + 1) (su τ (64 + 53 * (sS σ e) + ((10 * (sD σ e)) + p)) 10) (c + 0) (by rw [stl, ← hτ]; exact (stS_eq hOτ (k1 := fS σ e) (d1 := fD σ e) (show sS σ e < 36 by omega) (show sD σ e < 4 by omega) (show p < 10 by omega) (nw := 10) (Or.inl ⟨hva, rfl⟩)).1) (by unfold stc at hxc ⊢; rw [sm, ← hxc, ← hτ, if_pos ((stS_eq hOτ (k1 := fS σ e) (d1 := fD σ e) (show sS σ e < 36 by omega) (show sD σ e < 4 by omega) (show p < 10 by omega) (nw := 10) (Or.inl ⟨hva, rfl⟩)).2.mp h170)]) (fun j hj => by rcases Nat.lt_succ_iff_lt_or_eq.mp hj with q | q; exact hz j q; (rw [q, ← hτ]; exact decide_eq_false (fun z => z.2.1 hva))) (hOτ.su_sg (by omega) (by omega)) (by omega) (by omega) (by omega) _ (lv_sub hl [4, 5, 6, 7, 8, 9, 1, 0] rfl) _ _ (hP) (hD) hS
                        · skip
                          have h154 : False := (iff_of_false (z_m4 (by omega)) id).mp h154
                          exact absurd h154 id
                      · skip
                        refine zrdV (As := [.int (nI (sS σ e)), .int (nI (sgn τ (sS σ e) (sD σ e) p)), .int (nI (mns τ (fS σ e) (fD σ e) p))]) ⟨hx, hb, hml, hown, hts⟩ (kX5_signFor_s l G m τ V σ ns x len B (sS σ e) (sgn τ (sS σ e) (sD σ e) p) (mns τ (fS σ e) (fD σ e) p) (hOτ) (by omega) (hvb.2.1) (hvb.1) (hvb.2.2)) (cwV 3 hts gX5_settle_X5_signFor rfl rfl rfl (by decide +kernel) ⟨Nat.le_of_ble_eq_true rfl, Nat.le_of_ble_eq_true rfl⟩) hG (va_recv (q0 := 0) (ci := 5) hG.1 hP rfl rfl) (hP) rfl rfl hl.1 dX5_settle_145 (Nat.le_of_ble_eq_true rfl) ⟨Nat.le_of_ble_eq_true rfl, Nat.le_of_ble_eq_true rfl⟩ ?_
                        refine lv_istore (lv' := [(9, .int (nI (sgn τ (sS σ e) (sD σ e) p))), (8, .int (nI (sgn τ (sS σ e) (sD σ e) p))), (0, .ref (m 0)), (1, .int (nI e)), (2, .int (nI (fS σ e))), (3, .int (nI 1)), (4, .int (nI (sS σ e))), (5, .int (nI (sD σ e))), (6, .int (nI c)), (7, .int (nI p))]) hx hb dX5_settle_148 hl (by decide) rfl (fun ls hl => ?_)
                        refine lv_iload hx hb dX5_settle_150 (lv_at hl 0 rfl) ?_
                        refine lv_bipush (v := (-4)) hx hb dX5_settle_152 (by decide) ?_
                        refine lv_icmp_ne (tgt := 164) hx hb dX5_settle_154 (by decide) (fun h154 => ?_) (fun h154 => ?_)
                        · skip
                          have h154 : ¬ (False) := fun q => h154 ((iff_of_false (z_m4 (by omega)) id).mpr q)
                          refine lv_iload hx hb dX5_settle_164 (lv_at hl 8 rfl) ?_
                          refine lv_iload hx hb dX5_settle_166 (lv_at hl 0 rfl) ?_
                          refine lv_iload hx hb dX5_settle_168 (lv_at hl 1 rfl) ?_
                          refine lv_icmp_ne (tgt := 177) hx hb dX5_settle_170 (by decide) (fun h170 => ?_) (fun h170 => ?_)
                          · skip
                            have h170 : ¬ ((sgn τ (sS σ e) (sD σ e) p) = (sgn τ (sS σ e) (sD σ e) p)) := fun q => h170 ((nI_eq (by omega) (by omega)).mpr q)
                            refine lv_iconst (v := nI 1) hx hb dX5_settle_177 (by decide) ?_
                            refine lv_iadd hx hb dX5_settle_178 ?_
                            refine lv_topi (nm_r (e' := nI (c + 1)) (nI_add _ _) ?_)
                            refine lv_istore (lv' := [(6, .int (nI (c + 1))), (9, .int (nI (sgn τ (sS σ e) (sD σ e) p))), (8, .int (nI (sgn τ (sS σ e) (sD σ e) p))), (0, .ref (m 0)), (1, .int (nI e)), (2, .int (nI (fS σ e))), (3, .int (nI 1)), (4, .int (nI (sS σ e))), (5, .int (nI (sD σ e))), (7, .int (nI p))]) hx hb dX5_settle_179 hl (by decide) rfl (fun ls hl => ?_)
                            refine lv_aload_n hx hb dX5_settle_181 rfl (lv_at hl 3 rfl) ?_
                            refine lv_iload hx hb dX5_settle_182 (lv_at hl 7 rfl) ?_
                            refine lv_bipush (v := nI 10) hx hb dX5_settle_184 (by decide) ?_
                            refine lv_iload hx hb dX5_settle_186 (lv_at hl 8 rfl) ?_
                            refine lv_imul hx hb dX5_settle_188 ?_
                            refine lv_topi (nm_r (e' := nI (10 * (sD σ e))) (pk_mul _ _) ?_)
                            refine lv_iload hx hb dX5_settle_189 (lv_at hl 9 rfl) ?_
                            refine lv_iadd hx hb dX5_settle_191 ?_
                            refine lv_topi (nm_r (e' := nI ((10 * (sD σ e)) + p)) (nI_add _ _) ?_)
                            refine lv_iload hx hb dX5_settle_192 (lv_at hl 1 rfl) ?_
                            refine zwrWv (G := G) (wc := (wM G m τ V σ ns x len B)) (wc' := (wM G m (su τ (64 + 53 * (sS σ e) + ((10 * (sD σ e)) + p)) (sgn τ (sS σ e) (sD σ e) p)) V σ ns x len B)) (va_runV (As := [.int (nI (sS σ e)), .int (nI ((10 * (sD σ e)) + p)), .int (nI (sgn τ (sS σ e) (sD σ e) p))]) (rest := []) ⟨hx, hb, hml, hown, hts⟩ (kX5_puts l G m τ V σ ns x len B (sS σ e) ((10 * (sD σ e)) + p) (sgn τ (sS σ e) (sD σ e) p) (by omega) (by omega) (by omega) (zD_any hD)) (cwV 3 hts gX5_settle_X5_puts rfl rfl rfl (by decide +kernel) ⟨Nat.le_of_ble_eq_true rfl, Nat.le_of_ble_eq_true rfl⟩) (zPreV hG (va_recv (q0 := 0) (ci := 5) hG.1 hP rfl rfl) (hP)) rfl rfl hl.1 rfl (lv_room (Nat.le_of_ble_eq_true rfl)) dX5_settle_194 ⟨Nat.le_of_ble_eq_true rfl, Nat.le_of_ble_eq_true rfl⟩) hP hD hS (wM_map ..) (fun H locs hP hD hS => ?_)
                            have hP : va_P G.1 vwCl (wM G m (su τ (64 + 53 * (sS σ e) + ((10 * (sD σ e)) + p)) (sgn τ (sS σ e) (sD σ e) p)) V σ ns x len B) H := hP
                            have hD : va_D (zA (wM G m σ V ζ ns x len B)) (wM G m (su τ (64 + 53 * (sS σ e) + ((10 * (sD σ e)) + p)) (sgn τ (sS σ e) (sD σ e) p)) V σ ns x len B) := hD
                            refine lv_iinc (v := nI (p + 1)) (lv' := [(7, .int (nI (p + 1))), (6, .int (nI (c + 1))), (9, .int (nI (sgn τ (sS σ e) (sD σ e) p))), (8, .int (nI (sgn τ (sS σ e) (sD σ e) p))), (0, .ref (m 0)), (1, .int (nI e)), (2, .int (nI (fS σ e))), (3, .int (nI 1)), (4, .int (nI (sS σ e))), (5, .int (nI (sD σ e)))]) hx hb dX5_settle_197 hl (k := 9) rfl (zinc1 _) (by decide) rfl (fun ls hl => ?_)
                            refine lv_goto (tgt := 100) hx hb dX5_settle_200 (by decide) ?_
                            exact ih100 (p + 1) (su τ (64 + 53 * (sS σ e) + ((10 * (sD σ e)) + p)) (sgn τ (sS σ e) (sD σ e) p)) (c + 1) (by rw [stl, ← hτ]; exact (stS_eq hOτ (k1 := fS σ e) (d1 := fD σ e) (show sS σ e < 36 by omega) (show sD σ e < 4 by omega) (show p < 10 by omega) (nw := (sgn τ (sS σ e) (sD σ e) p)) (Or.inr (Or.inl ⟨by omega, hvb.2.1, hvb.2.2, rfl⟩))).1) (by unfold stc at hxc ⊢; rw [sm, ← hxc, ← hτ, if_neg (fun z => h170 ((stS_eq hOτ (k1 := fS σ e) (d1 := fD σ e) (show sS σ e < 36 by omega) (show sD σ e < 4 by omega) (show p < 10 by omega) (nw := (sgn τ (sS σ e) (sD σ e) p)) (Or.inr (Or.inl ⟨by omega, hvb.2.1, hvb.2.2, rfl⟩))).2.mpr z))]) (fun j hj => by rcases Nat.lt_succ_iff_lt_or_eq.mp hj with q | q; exact hz j q; (rw [q, ← hτ]; exact decide_eq_false (fun z => z.1 ((stS_eq hOτ (k1 := fS σ e) (d1 := fD σ e) (show sS σ e < 36 by omega) (show sD σ e < 4 by omega) (show p < 10 by omega) (nw := (sgn τ (sS σ e) (sD σ e) p)) (Or.inr (Or.inl ⟨by omega, hvb.2.1, hvb.2.2, rfl⟩))).2.mp rfl)))) (hOτ.su_sg (by omega) (by omega)) (by omega) (by omega) (by omega) _ (lv_sub hl [4, 5, 6, 7, 8, 9, 1, 0] rfl) _ _ (hP) (hD) hS
                          · skip
                            have h170 : (sgn τ (sS σ e) (sD σ e) p) = (sgn τ (sS σ e) (sD σ e) p) := (nI_eq (by omega) (by omega)).mp h170
                            refine lv_iconst (v := nI 0) hx hb dX5_settle_173 (by decide) ?_
                            refine lv_goto (tgt := 178) hx hb dX5_settle_174 (by decide) ?_
                            refine lv_iadd hx hb dX5_settle_178 ?_
                            refine lv_topi (nm_r (e' := nI (c + 0)) (nI_add _ _) ?_)
                            refine lv_istore (lv' := [(6, .int (nI (c + 0))), (9, .int (nI (sgn τ (sS σ e) (sD σ e) p))), (8, .int (nI (sgn τ (sS σ e) (sD σ e) p))), (0, .ref (m 0)), (1, .int (nI e)), (2, .int (nI (fS σ e))), (3, .int (nI 1)), (4, .int (nI (sS σ e))), (5, .int (nI (sD σ e))), (7, .int (nI p))]) hx hb dX5_settle_179 hl (by decide) rfl (fun ls hl => ?_)
                            refine lv_aload_n hx hb dX5_settle_181 rfl (lv_at hl 3 rfl) ?_
                            refine lv_iload hx hb dX5_settle_182 (lv_at hl 7 rfl) ?_
                            refine lv_bipush (v := nI 10) hx hb dX5_settle_184 (by decide) ?_
                            refine lv_iload hx hb dX5_settle_186 (lv_at hl 8 rfl) ?_
                            refine lv_imul hx hb dX5_settle_188 ?_
                            refine lv_topi (nm_r (e' := nI (10 * (sD σ e))) (pk_mul _ _) ?_)
                            refine lv_iload hx hb dX5_settle_189 (lv_at hl 9 rfl) ?_
                            refine lv_iadd hx hb dX5_settle_191 ?_
                            refine lv_topi (nm_r (e' := nI ((10 * (sD σ e)) + p)) (nI_add _ _) ?_)
                            refine lv_iload hx hb dX5_settle_192 (lv_at hl 1 rfl) ?_
                            refine zwrWv (G := G) (wc := (wM G m τ V σ ns x len B)) (wc' := (wM G m (su τ (64 + 53 * (sS σ e) + ((10 * (sD σ e)) + p)) (sgn τ (sS σ e) (sD σ e) p)) V σ ns x len B)) (va_runV (As := [.int (nI (sS σ e)), .int (nI ((10 * (sD σ e)) + p)), .int (nI (sgn τ (sS σ e) (sD σ e) p))]) (rest := []) ⟨hx, hb, hml, hown, hts⟩ (kX5_puts l G m τ V σ ns x len B (sS σ e) ((10 * (sD σ e)) + p) (sgn τ (sS σ e) (sD σ e) p) (by omega) (by omega) (by omega) (zD_any hD)) (cwV 3 hts gX5_settle_X5_puts rfl rfl rfl (by decide +kernel) ⟨Nat.le_of_ble_eq_true rfl, Nat.le_of_ble_eq_true rfl⟩) (zPreV hG (va_recv (q0 := 0) (ci := 5) hG.1 hP rfl rfl) (hP)) rfl rfl hl.1 rfl (lv_room (Nat.le_of_ble_eq_true rfl)) dX5_settle_194 ⟨Nat.le_of_ble_eq_true rfl, Nat.le_of_ble_eq_true rfl⟩) hP hD hS (wM_map ..) (fun H locs hP hD hS => ?_)
                            have hP : va_P G.1 vwCl (wM G m (su τ (64 + 53 * (sS σ e) + ((10 * (sD σ e)) + p)) (sgn τ (sS σ e) (sD σ e) p)) V σ ns x len B) H := hP
                            have hD : va_D (zA (wM G m σ V ζ ns x len B)) (wM G m (su τ (64 + 53 * (sS σ e) + ((10 * (sD σ e)) + p)) (sgn τ (sS σ e) (sD σ e) p)) V σ ns x len B) := hD
                            refine lv_iinc (v := nI (p + 1)) (lv' := [(7, .int (nI (p + 1))), (6, .int (nI (c + 0))), (9, .int (nI (sgn τ (sS σ e) (sD σ e) p))), (8, .int (nI (sgn τ (sS σ e) (sD σ e) p))), (0, .ref (m 0)), (1, .int (nI e)), (2, .int (nI (fS σ e))), (3, .int (nI 1)), (4, .int (nI (sS σ e))), (5, .int (nI (sD σ e)))]) hx hb dX5_settle_197 hl (k := 9) rfl (zinc1 _) (by decide) rfl (fun ls hl => ?_)
                            refine lv_goto (tgt := 100) hx hb dX5_settle_200 (by decide) ?_
                            exact ih100 (p + 1) (su τ (64 + 53 * (sS σ e) + ((10 * (sD σ e)) + p)) (sgn τ (sS σ e) (sD σ e) p)) (c + 0) (by rw [stl, ← hτ]; exact (stS_eq hOτ (k1 := fS σ e) (d1 := fD σ e) (show sS σ e < 36 by omega) (show sD σ e < 4 by omega) (show p < 10 by omega) (nw := (sgn τ (sS σ e) (sD σ e) p)) (Or.inr (Or.inl ⟨by omega, hvb.2.1, hvb.2.2, rfl⟩))).1) (by unfold stc at hxc ⊢; rw [sm, ← hxc, ← hτ, if_pos ((stS_eq hOτ (k1 := fS σ e) (d1 := fD σ e) (show sS σ e < 36 by omega) (show sD σ e < 4 by omega) (show p < 10 by omega) (nw := (sgn τ (sS σ e) (sD σ e) p)) (Or.inr (Or.inl ⟨by omega, hvb.2.1, hvb.2.2, rfl⟩))).2.mp h170)]) (fun j hj => by rcases Nat.lt_succ_iff_lt_or_eq.mp hj with q | q; exact hz j q; (rw [q, ← hτ]; exact decide_eq_false (fun z => z.1 ((stS_eq hOτ (k1 := fS σ e) (d1 := fD σ e) (show sS σ e < 36 by omega) (show sD σ e < 4 by omega) (show p < 10 by omega) (nw := (sgn τ (sS σ e) (sD σ e) p)) (Or.inr (Or.inl ⟨by omega, hvb.2.1, hvb.2.2, rfl⟩))).2.mp rfl)))) (hOτ.su_sg (by omega) (by omega)) (by omega) (by omega) (by omega) _ (lv_sub hl [4, 5, 6, 7, 8, 9, 1, 0] rfl) _ _ (hP) (hD) hS
                        · skip
                          have h154 : False := (iff_of_false (z_m4 (by omega)) id).mp h154
                          exact absurd h154 id
                      · skip
                        refine zrdV (As := [.int (nI (sS σ e)), .int (nI (sgn τ (sS σ e) (sD σ e) p)), .int (nI (mns τ (fS σ e) (fD σ e) p))]) ⟨hx, hb, hml, hown, hts⟩ (kX5_signFor_l l G m τ V σ ns x len B (sS σ e) (sgn τ (sS σ e) (sD σ e) p) (mns τ (fS σ e) (fD σ e) p) (hOτ) (by omega) (hs10) (hvb.1) (hvb.2)) (cwV 3 hts gX5_settle_X5_signFor rfl rfl rfl (by decide +kernel) ⟨Nat.le_of_ble_eq_true rfl, Nat.le_of_ble_eq_true rfl⟩) hG (va_recv (q0 := 0) (ci := 5) hG.1 hP rfl rfl) (hP) rfl rfl hl.1 dX5_settle_145 (Nat.le_of_ble_eq_true rfl) ⟨Nat.le_of_ble_eq_true rfl, Nat.le_of_ble_eq_true rfl⟩ ?_
                        have hf145_0 := lws_le τ ((sS σ e)) ((mns τ (fS σ e) (fD σ e) p))
                        refine lv_istore (lv' := [(9, .int (zc 10 (lws τ (sS σ e) (mns τ (fS σ e) (fD σ e) p)))), (8, .int (nI (sgn τ (sS σ e) (sD σ e) p))), (0, .ref (m 0)), (1, .int (nI e)), (2, .int (nI (fS σ e))), (3, .int (nI 1)), (4, .int (nI (sS σ e))), (5, .int (nI (sD σ e))), (6, .int (nI c)), (7, .int (nI p))]) hx hb dX5_settle_148 hl (by decide) rfl (fun ls hl => ?_)
                        refine lv_iload hx hb dX5_settle_150 (lv_at hl 0 rfl) ?_
                        refine lv_bipush (v := (-4)) hx hb dX5_settle_152 (by decide) ?_
                        refine lv_icmp_ne (tgt := 164) hx hb dX5_settle_154 (by decide) (fun h154 => ?_) (fun h154 => ?_)
                        · skip
                          have h154 : ¬ (lws τ (sS σ e) (mns τ (fS σ e) (fD σ e) p) = 10) := fun q => h154 ((zc_m4 (by omega)).mpr q)
                          rw [show zc 10 (lws τ (sS σ e) (mns τ (fS σ e) (fD σ e) p)) = nI (lws τ (sS σ e) (mns τ (fS σ e) (fD σ e) p)) from zc_n h154] at hl
                          refine lv_iload hx hb dX5_settle_164 (lv_at hl 8 rfl) ?_
                          refine lv_iload hx hb dX5_settle_166 (lv_at hl 0 rfl) ?_
                          refine lv_iload hx hb dX5_settle_168 (lv_at hl 1 rfl) ?_
                          refine lv_icmp_ne (tgt := 177) hx hb dX5_settle_170 (by decide) (fun h170 => ?_) (fun h170 => ?_)
                          · skip
                            have h170 : ¬ ((lws τ (sS σ e) (mns τ (fS σ e) (fD σ e) p)) = (sgn τ (sS σ e) (sD σ e) p)) := fun q => h170 ((nI_eq (by omega) (by omega)).mpr q)
                            refine lv_iconst (v := nI 1) hx hb dX5_settle_177 (by decide) ?_
                            refine lv_iadd hx hb dX5_settle_178 ?_
                            refine lv_topi (nm_r (e' := nI (c + 1)) (nI_add _ _) ?_)
                            refine lv_istore (lv' := [(6, .int (nI (c + 1))), (9, .int (nI (lws τ (sS σ e) (mns τ (fS σ e) (fD σ e) p)))), (8, .int (nI (sgn τ (sS σ e) (sD σ e) p))), (0, .ref (m 0)), (1, .int (nI e)), (2, .int (nI (fS σ e))), (3, .int (nI 1)), (4, .int (nI (sS σ e))), (5, .int (nI (sD σ e))), (7, .int (nI p))]) hx hb dX5_settle_179 hl (by decide) rfl (fun ls hl => ?_)
                            refine lv_aload_n hx hb dX5_settle_181 rfl (lv_at hl 3 rfl) ?_
                            refine lv_iload hx hb dX5_settle_182 (lv_at hl 7 rfl) ?_
                            refine lv_bipush (v := nI 10) hx hb dX5_settle_184 (by decide) ?_
                            refine lv_iload hx hb dX5_settle_186 (lv_at hl 8 rfl) ?_
                            refine lv_imul hx hb dX5_settle_188 ?_
                            refine lv_topi (nm_r (e' := nI (10 * (sD σ e))) (pk_mul _ _) ?_)
                            refine lv_iload hx hb dX5_settle_189 (lv_at hl 9 rfl) ?_
                            refine lv_iadd hx hb dX5_settle_191 ?_
                            refine lv_topi (nm_r (e' := nI ((10 * (sD σ e)) + p)) (nI_add _ _) ?_)
                            refine lv_iload hx hb dX5_settle_192 (lv_at hl 1 rfl) ?_
                            refine zwrWv (G := G) (wc := (wM G m τ V σ ns x len B)) (wc' := (wM G m (su τ (64 + 53 * (sS σ e) + ((10 * (sD σ e)) + p)) (lws τ (sS σ e) (mns τ (fS σ e) (fD σ e) p))) V σ ns x len B)) (va_runV (As := [.int (nI (sS σ e)), .int (nI ((10 * (sD σ e)) + p)), .int (nI (lws τ (sS σ e) (mns τ (fS σ e) (fD σ e) p)))]) (rest := []) ⟨hx, hb, hml, hown, hts⟩ (kX5_puts l G m τ V σ ns x len B (sS σ e) ((10 * (sD σ e)) + p) (lws τ (sS σ e) (mns τ (fS σ e) (fD σ e) p)) (by omega) (by omega) (by omega) (zD_any hD)) (cwV 3 hts gX5_settle_X5_puts rfl rfl rfl (by decide +kernel) ⟨Nat.le_of_ble_eq_true rfl, Nat.le_of_ble_eq_true rfl⟩) (zPreV hG (va_recv (q0 := 0) (ci := 5) hG.1 hP rfl rfl) (hP)) rfl rfl hl.1 rfl (lv_room (Nat.le_of_ble_eq_true rfl)) dX5_settle_194 ⟨Nat.le_of_ble_eq_true rfl, Nat.le_of_ble_eq_true rfl⟩) hP hD hS (wM_map ..) (fun H locs hP hD hS => ?_)
                            have hP : va_P G.1 vwCl (wM G m (su τ (64 + 53 * (sS σ e) + ((10 * (sD σ e)) + p)) (lws τ (sS σ e) (mns τ (fS σ e) (fD σ e) p))) V σ ns x len B) H := hP
                            have hD : va_D (zA (wM G m σ V ζ ns x len B)) (wM G m (su τ (64 + 53 * (sS σ e) + ((10 * (sD σ e)) + p)) (lws τ (sS σ e) (mns τ (fS σ e) (fD σ e) p))) V σ ns x len B) := hD
                            refine lv_iinc (v := nI (p + 1)) (lv' := [(7, .int (nI (p + 1))), (6, .int (nI (c + 1))), (9, .int (nI (lws τ (sS σ e) (mns τ (fS σ e) (fD σ e) p)))), (8, .int (nI (sgn τ (sS σ e) (sD σ e) p))), (0, .ref (m 0)), (1, .int (nI e)), (2, .int (nI (fS σ e))), (3, .int (nI 1)), (4, .int (nI (sS σ e))), (5, .int (nI (sD σ e)))]) hx hb dX5_settle_197 hl (k := 9) rfl (zinc1 _) (by decide) rfl (fun ls hl => ?_)
                            refine lv_goto (tgt := 100) hx hb dX5_settle_200 (by decide) ?_
                            exact ih100 (p + 1) (su τ (64 + 53 * (sS σ e) + ((10 * (sD σ e)) + p)) (lws τ (sS σ e) (mns τ (fS σ e) (fD σ e) p))) (c + 1) (by rw [stl, ← hτ]; exact (stS_eq hOτ (k1 := fS σ e) (d1 := fD σ e) (show sS σ e < 36 by omega) (show sD σ e < 4 by omega) (show p < 10 by omega) (nw := lws τ (sS σ e) (mns τ (fS σ e) (fD σ e) p)) (Or.inr (Or.inr ⟨by omega, hvb.2, rfl, h154⟩))).1) (by unfold stc at hxc ⊢; rw [sm, ← hxc, ← hτ, if_neg (fun z => h170 ((stS_eq hOτ (k1 := fS σ e) (d1 := fD σ e) (show sS σ e < 36 by omega) (show sD σ e < 4 by omega) (show p < 10 by omega) (nw := lws τ (sS σ e) (mns τ (fS σ e) (fD σ e) p)) (Or.inr (Or.inr ⟨by omega, hvb.2, rfl, h154⟩))).2.mpr z))]) (fun j hj => by rcases Nat.lt_succ_iff_lt_or_eq.mp hj with q | q; exact hz j q; (rw [q, ← hτ]; exact decide_eq_false (fun z => h154 z.2.2))) (hOτ.su_sg (by omega) (by omega)) (by omega) (by omega) (by omega) _ (lv_sub hl [4, 5, 6, 7, 8, 9, 1, 0] rfl) _ _ (hP) (hD) hS
                          · skip
                            have h170 : (lws τ (sS σ e) (mns τ (fS σ e) (fD σ e) p)) = (sgn τ (sS σ e) (sD σ e) p) := (nI_eq (by omega) (by omega)).mp h170
                            refine lv_iconst (v := nI 0) hx hb dX5_settle_173 (by decide) ?_
                            refine lv_goto (tgt := 178) hx hb dX5_settle_174 (by decide) ?_
                            refine lv_iadd hx hb dX5_settle_178 ?_
                            refine lv_topi (nm_r (e' := nI (c + 0)) (nI_add _ _) ?_)
                            refine lv_istore (lv' := [(6, .int (nI (c + 0))), (9, .int (nI (lws τ (sS σ e) (mns τ (fS σ e) (fD σ e) p)))), (8, .int (nI (sgn τ (sS σ e) (sD σ e) p))), (0, .ref (m 0)), (1, .int (nI e)), (2, .int (nI (fS σ e))), (3, .int (nI 1)), (4, .int (nI (sS σ e))), (5, .int (nI (sD σ e))), (7, .int (nI p))]) hx hb dX5_settle_179 hl (by decide) rfl (fun ls hl => ?_)
                            refine lv_aload_n hx hb dX5_settle_181 rfl (lv_at hl 3 rfl) ?_
                            refine lv_iload hx hb dX5_settle_182 (lv_at hl 7 rfl) ?_
                            refine lv_bipush (v := nI 10) hx hb dX5_settle_184 (by decide) ?_
                            refine lv_iload hx hb dX5_settle_186 (lv_at hl 8 rfl) ?_
                            refine lv_imul hx hb dX5_settle_188 ?_
                            refine lv_topi (nm_r (e' := nI (10 * (sD σ e))) (pk_mul _ _) ?_)
                            refine lv_iload hx hb dX5_settle_189 (lv_at hl 9 rfl) ?_
                            refine lv_iadd hx hb dX5_settle_191 ?_
                            refine lv_topi (nm_r (e' := nI ((10 * (sD σ e)) + p)) (nI_add _ _) ?_)
                            refine lv_iload hx hb dX5_settle_192 (lv_at hl 1 rfl) ?_
                            refine zwrWv (G := G) (wc := (wM G m τ V σ ns x len B)) (wc' := (wM G m (su τ (64 + 53 * (sS σ e) + ((10 * (sD σ e)) + p)) (lws τ (sS σ e) (mns τ (fS σ e) (fD σ e) p))) V σ ns x len B)) (va_runV (As := [.int (nI (sS σ e)), .int (nI ((10 * (sD σ e)) + p)), .int (nI (lws τ (sS σ e) (mns τ (fS σ e) (fD σ e) p)))]) (rest := []) ⟨hx, hb, hml, hown, hts⟩ (kX5_puts l G m τ V σ ns x len B (sS σ e) ((10 * (sD σ e)) + p) (lws τ (sS σ e) (mns τ (fS σ e) (fD σ e) p)) (by omega) (by omega) (by omega) (zD_any hD)) (cwV 3 hts gX5_settle_X5_puts rfl rfl rfl (by decide +kernel) ⟨Nat.le_of_ble_eq_true rfl, Nat.le_of_ble_eq_true rfl⟩) (zPreV hG (va_recv (q0 := 0) (ci := 5) hG.1 hP rfl rfl) (hP)) rfl rfl hl.1 rfl (lv_room (Nat.le_of_ble_eq_true rfl)) dX5_settle_194 ⟨Nat.le_of_ble_eq_true rfl, Nat.le_of_ble_eq_true rfl⟩) hP hD hS (wM_map ..) (fun H locs hP hD hS => ?_)
                            have hP : va_P G.1 vwCl (wM G m (su τ (64 + 53 * (sS σ e) + ((10 * (sD σ e)) + p)) (lws τ (sS σ e) (mns τ (fS σ e) (fD σ e) p))) V σ ns x len B) H := hP
                            have hD : va_D (zA (wM G m σ V ζ ns x len B)) (wM G m (su τ (64 + 53 * (sS σ e) + ((10 * (sD σ e)) + p)) (lws τ (sS σ e) (mns τ (fS σ e) (fD σ e) p))) V σ ns x len B) := hD
                            refine lv_iinc (v := nI (p + 1)) (lv' := [(7, .int (nI (p + 1))), (6, .int (nI (c + 0))), (9, .int (nI (lws τ (sS σ e) (mns τ (fS σ e) (fD σ e) p)))), (8, .int (nI (sgn τ (sS σ e) (sD σ e) p))), (0, .ref (m 0)), (1, .int (nI e)), (2, .int (nI (fS σ e))), (3, .int (nI 1)), (4, .int (nI (sS σ e))), (5, .int (nI (sD σ e)))]) hx hb dX5_settle_197 hl (k := 9) rfl (zinc1 _) (by decide) rfl (fun ls hl => ?_)
                            refine lv_goto (tgt := 100) hx hb dX5_settle_200 (by decide) ?_
                            exact ih100 (p + 1) (su τ (64 + 53 * (sS σ e) + ((10 * (sD σ e)) + p)) (lws τ (sS σ e) (mns τ (fS σ e) (fD σ e) p))) (c + 0) (by rw [stl, ← hτ]; exact (stS_eq hOτ (k1 := fS σ e) (d1 := fD σ e) (show sS σ e < 36 by omega) (show sD σ e < 4 by omega) (show p < 10 by omega) (nw := lws τ (sS σ e) (mns τ (fS σ e) (fD σ e) p)) (Or.inr (Or.inr ⟨by omega, hvb.2, rfl, h154⟩))).1) (by unfold stc at hxc ⊢; rw [sm, ← hxc, ← hτ, if_pos ((stS_eq hOτ (k1 := fS σ e) (d1 := fD σ e) (show sS σ e < 36 by omega) (show sD σ e < 4 by omega) (show p < 10 by omega) (nw := lws τ (sS σ e) (mns τ (fS σ e) (fD σ e) p)) (Or.inr (Or.inr ⟨by omega, hvb.2, rfl, h154⟩))).2.mp h170)]) (fun j hj => by rcases Nat.lt_succ_iff_lt_or_eq.mp hj with q | q; exact hz j q; (rw [q, ← hτ]; exact decide_eq_false (fun z => h154 z.2.2))) (hOτ.su_sg (by omega) (by omega)) (by omega) (by omega) (by omega) _ (lv_sub hl [4, 5, 6, 7, 8, 9, 1, 0] rfl) _ _ (hP) (hD) hS
                        · skip
                          have h154 : lws τ (sS σ e) (mns τ (fS σ e) (fD σ e) p) = 10 := (zc_m4 (by omega)).mp h154
                          exfalso; have hB : sbd σ (fS σ e) (fD σ e) (sS σ e) (sD σ e) = p := fst1_at (by omega) hz (by rw [← hτ]; exact decide_eq_true ⟨fun z => by have hm := mns_10 hOτ (show sS σ e < 36 by omega) (show sD σ e < 4 by omega) (show p < 10 by omega); by_cases y : sgn τ (sS σ e) (sD σ e) p = 10; (have := hm.mpr y; omega); (unfold mns at z; rw [if_neg y] at z; exact hvb.2 ⟨by omega, z.symm⟩), by omega, h154⟩); omega
              exact loop100 11 0 σ 0 (rfl) (rfl) (fun j hj => absurd hj (Nat.not_lt_zero j)) (hO) (by omega) (by omega) (by omega) _ (lv_sub hl [5, 6, 7, 4, 3, 2, 1, 0] rfl) _ _ (hP) (hD) hS
          · skip
            have h67 : 1 = 0 := (z_eq0 (by omega)).mp h67
            exfalso; omega
    · skip
      have h14 : ¬ ((fS σ e) = (fS σ e)) := fun q => h14 ((nI_eq (by omega) (by omega)).mpr q)
      exfalso; omega
set_option maxHeartbeats 4000000 in
set_option maxRecDepth 100000 in
theorem kX5_settle_f_no (l : Launch) (G : zG) (m : Nat → Nat) (σ : Nat → Nat) (V : Nat → Nat → Nat) (ζ : Nat → Nat) (ns : Nat) (x : Nat → Nat) (len : Nat) (B : Nat → Int32) {N : Nat} (e : Nat) (hO : Ok N σ) (hns : ns ≤ 4) (he : e < nE σ) (hbad : sbd σ (fS σ e) (fD σ e) (sS σ e) (sD σ e) < 10) (hd : va_D (fun _ => True) (wM G m σ V ζ ns x len B)) : Met l yX5_settle wsX5_settle (zRm 4 91) (zPc G [.ref (m 0), .int (nI e), .int (nI (fS σ e))] (va_P G.1 vwCl (wM G m σ V ζ ns x len B))) (zQ (zA (wM G m σ V ζ ns x len B)) (some (.int ((-2)))) (va_P G.1 vwCl (wM G m σ V σ ns x len B))) 0 0 (zA (wM G m σ V ζ ns x len B)) := by
  refine zmkWi (w := (wM G m σ V ζ ns x len B)) hd (cc := cX5_settle) (maxL := 10) (by decide) rfl (Nat.le_of_ble_eq_true rfl) ?_
  intro pr en st mi ar bl me cd ls Q hx hb hml hown hts hG hP hl hD hS hret
  have hown : st.vm.findClass RX5 = some mi.cls := hown
  have hl : lv_has ls 10 [(0, .ref (m 0)), (1, .int (nI e)), (2, .int (nI (fS σ e)))] := hl
  have hP : va_P G.1 vwCl (wM G m σ V ζ ns x len B) st.heap := hP
  have hD : va_D (zA (wM G m σ V ζ ns x len B)) (wM G m σ V ζ ns x len B) := hD
  have hc := hO.c
  have hs := hO.lS
  have hr := hO.lR
  have hne := hO.lE
  have hve : 0 ≤ nI e ∧ nI e < nI (nE σ) := z_in he (by omega)
  have hlt : fS σ e < sS σ e := by unfold sS; have := hO.c; split <;> omega
  have hda := fD_lt σ e
  have hdb := sD_lt σ e
  have hstc := stc_le σ (fS σ e) (fD σ e) (sS σ e) (sD σ e) 10
  have hfs := hO.lF he
  refine lv_aload_n hx hb dX5_settle_0 rfl (lv_at hl 0 rfl) ?_
  refine lv_iload_n hx hb dX5_settle_1 rfl (lv_at hl 1 rfl) ?_
  refine zrdV (As := [.int (nI e)]) ⟨hx, hb, hml, hown, hts⟩ (kX5_isEdge l G m σ V ζ ns x len B (nI e) (hO)) (cwV 1 hts gX5_settle_X5_isEdge rfl rfl rfl (by decide +kernel) ⟨Nat.le_of_ble_eq_true rfl, Nat.le_of_ble_eq_true rfl⟩) hG (va_recv (q0 := 0) (ci := 5) hG.1 hP rfl rfl) (hP) rfl rfl hl.1 dX5_settle_2 (Nat.le_of_ble_eq_true rfl) ⟨Nat.le_of_ble_eq_true rfl, Nat.le_of_ble_eq_true rfl⟩ ?_
  refine lv_if_eq (tgt := 26) hx hb dX5_settle_5 (by decide) (fun h5 => ?_) (fun h5 => ?_)
  · skip
    have h5 : ¬ (0 ≤ (nI e) ∧ (nI e) < nI (nE σ)) := (z_b0).mp h5
    exact absurd hve h5
  · skip
    have h5 : ¬ (¬ (0 ≤ (nI e) ∧ (nI e) < nI (nE σ))) := fun q => h5 ((z_b0).mpr q)
    have h5 : 0 ≤ (nI e) ∧ (nI e) < nI (nE σ) := Decidable.of_not_not h5
    refine lv_iload_n hx hb dX5_settle_8 rfl (lv_at hl 2 rfl) ?_
    refine lv_aload_n hx hb dX5_settle_9 rfl (lv_at hl 0 rfl) ?_
    refine lv_iload_n hx hb dX5_settle_10 rfl (lv_at hl 1 rfl) ?_
    refine zrdV (As := [.int (nI e)]) ⟨hx, hb, hml, hown, hts⟩ (kX5_firstOf l G m σ V ζ ns x len B e (hO) (by omega)) (cwV 1 hts gX5_settle_X5_firstOf rfl rfl rfl (by decide +kernel) ⟨Nat.le_of_ble_eq_true rfl, Nat.le_of_ble_eq_true rfl⟩) hG (va_recv (q0 := 0) (ci := 5) hG.1 hP rfl rfl) (hP) rfl rfl hl.1 dX5_settle_11 (Nat.le_of_ble_eq_true rfl) ⟨Nat.le_of_ble_eq_true rfl, Nat.le_of_ble_eq_true rfl⟩ ?_
    have hf11_0 := hO.lF (show e < nE σ by omega)
    refine lv_icmp_eq (tgt := 28) hx hb dX5_settle_14 (by decide) (fun h14 => ?_) (fun h14 => ?_)
    · skip
      have h14 : (fS σ e) = (fS σ e) := (nI_eq (by omega) (by omega)).mp h14
      refine lv_aload_n hx hb dX5_settle_28 rfl (lv_at hl 0 rfl) ?_
      refine zwrWv (G := G) (wc := (wM G m σ V ζ ns x len B)) (wc' := (wM G m σ V σ ns x len B)) (va_runV (As := []) (rest := []) ⟨hx, hb, hml, hown, hts⟩ (kX5_hold l G m σ V ζ ns x len B (zD_any hD)) (cwV 0 hts gX5_settle_X5_hold rfl rfl rfl (by decide +kernel) ⟨Nat.le_of_ble_eq_true rfl, Nat.le_of_ble_eq_true rfl⟩) (zPreV hG (va_recv (q0 := 0) (ci := 5) hG.1 hP rfl rfl) (hP)) rfl rfl hl.1 rfl (lv_room (Nat.le_of_ble_eq_true rfl)) dX5_settle_29 ⟨Nat.le_of_ble_eq_true rfl, Nat.le_of_ble_eq_true rfl⟩) hP hD hS (wM_map ..) (fun H locs hP hD hS => ?_)
      have hP : va_P G.1 vwCl (wM G m σ V σ ns x len B) H := hP
      have hD : va_D (zA (wM G m σ V ζ ns x len B)) (wM G m σ V σ ns x len B) := hD
      refine lv_iload_n hx hb dX5_settle_32 rfl (lv_at hl 2 rfl) ?_
      refine lv_aload_n hx hb dX5_settle_33 rfl (lv_at hl 0 rfl) ?_
      refine lv_iload_n hx hb dX5_settle_34 rfl (lv_at hl 1 rfl) ?_
      refine zrdV (As := [.int (nI e)]) ⟨hx, hb, hml, hown, hts⟩ (kX5_firstOf l G m σ V σ ns x len B e (hO) (by omega)) (cwV 1 hts gX5_settle_X5_firstOf rfl rfl rfl (by decide +kernel) ⟨Nat.le_of_ble_eq_true rfl, Nat.le_of_ble_eq_true rfl⟩) hG (va_recv (q0 := 0) (ci := 5) hG.1 hP rfl rfl) (hP) rfl rfl hl.1 dX5_settle_35 (Nat.le_of_ble_eq_true rfl) ⟨Nat.le_of_ble_eq_true rfl, Nat.le_of_ble_eq_true rfl⟩ ?_
      have hf35_0 := hO.lF (show e < nE σ by omega)
      refine lv_icmp_ne (tgt := 45) hx hb dX5_settle_38 (by decide) (fun h38 => ?_) (fun h38 => ?_)
      · skip
        have h38 : ¬ ((fS σ e) = (fS σ e)) := fun q => h38 ((nI_eq (by omega) (by omega)).mpr q)
        exact absurd rfl h38
      · skip
        have h38 : (fS σ e) = (fS σ e) := (nI_eq (by omega) (by omega)).mp h38
        refine lv_iconst (v := nI 1) hx hb dX5_settle_41 (by decide) ?_
        refine lv_goto (tgt := 46) hx hb dX5_settle_42 (by decide) ?_
        refine lv_istore_n (lv' := [(3, .int (nI 1)), (0, .ref (m 0)), (1, .int (nI e)), (2, .int (nI (fS σ e)))]) hx hb dX5_settle_46 rfl hl (by decide) rfl (fun ls hl => ?_)
        refine lv_iload_n hx hb dX5_settle_47 rfl (lv_at hl 0 rfl) ?_
        refine lv_if_eq (tgt := 59) hx hb dX5_settle_48 (by decide) (fun h48 => ?_) (fun h48 => ?_)
        · skip
          have h48 : 1 = 0 := (z_eq0 (by omega)).mp h48
          exfalso; omega
        · skip
          have h48 : ¬ (1 = 0) := fun q => h48 ((z_eq0 (by omega)).mpr q)
          have h48 : 0 < 1 := Nat.pos_of_ne_zero h48
          refine lv_aload_n hx hb dX5_settle_51 rfl (lv_at hl 1 rfl) ?_
          refine lv_iload_n hx hb dX5_settle_52 rfl (lv_at hl 2 rfl) ?_
          refine zrdV (As := [.int (nI e)]) ⟨hx, hb, hml, hown, hts⟩ (kX5_secondOf l G m σ V σ ns x len B e (hO) (by omega)) (cwV 1 hts gX5_settle_X5_secondOf rfl rfl rfl (by decide +kernel) ⟨Nat.le_of_ble_eq_true rfl, Nat.le_of_ble_eq_true rfl⟩) hG (va_recv (q0 := 0) (ci := 5) hG.1 hP rfl rfl) (hP) rfl rfl hl.1 dX5_settle_53 (Nat.le_of_ble_eq_true rfl) ⟨Nat.le_of_ble_eq_true rfl, Nat.le_of_ble_eq_true rfl⟩ ?_
          have hf53_0 := hO.lF (show e < nE σ by omega)
          refine lv_goto (tgt := 64) hx hb dX5_settle_56 (by decide) ?_
          refine lv_istore (lv' := [(4, .int (nI (sS σ e))), (3, .int (nI 1)), (0, .ref (m 0)), (1, .int (nI e)), (2, .int (nI (fS σ e)))]) hx hb dX5_settle_64 hl (by decide) rfl (fun ls hl => ?_)
          refine lv_iload_n hx hb dX5_settle_66 rfl (lv_at hl 1 rfl) ?_
          refine lv_if_ne (tgt := 78) hx hb dX5_settle_67 (by decide) (fun h67 => ?_) (fun h67 => ?_)
          · skip
            have h67 : ¬ (1 = 0) := fun q => h67 ((z_eq0 (by omega)).mpr q)
            have h67 : 0 < 1 := Nat.pos_of_ne_zero h67
            refine lv_aload_n hx hb dX5_settle_78 rfl (lv_at hl 2 rfl) ?_
            refine lv_iload_n hx hb dX5_settle_79 rfl (lv_at hl 3 rfl) ?_
            refine zrdV (As := [.int (nI e)]) ⟨hx, hb, hml, hown, hts⟩ (kX5_sideOf l G m σ V σ ns x len B e (hO) (by omega)) (cwV 1 hts gX5_settle_X5_sideOf rfl rfl rfl (by decide +kernel) ⟨Nat.le_of_ble_eq_true rfl, Nat.le_of_ble_eq_true rfl⟩) hG (va_recv (q0 := 0) (ci := 5) hG.1 hP rfl rfl) (hP) rfl rfl hl.1 dX5_settle_80 (Nat.le_of_ble_eq_true rfl) ⟨Nat.le_of_ble_eq_true rfl, Nat.le_of_ble_eq_true rfl⟩ ?_
            have hf80_0 := fD_lt σ (e)
            refine lv_iconst (v := nI 1) hx hb dX5_settle_83 (by decide) ?_
            refine lv_icmp_ne (tgt := 91) hx hb dX5_settle_84 (by decide) (fun h84 => ?_) (fun h84 => ?_)
            · skip
              have h84 : ¬ ((fD σ e) = 1) := fun q => h84 ((nI_eq (by omega) (by omega)).mpr q)
              refine lv_iconst (v := nI 0) hx hb dX5_settle_91 (by decide) ?_
              refine lv_topi (nm_r (e' := nI (sD σ e)) (congrArg nI (by unfold sD; rw [if_neg (by unfold fD at h84; split at h84 <;> omega)])) ?_)
              refine lv_istore (lv' := [(5, .int (nI (sD σ e))), (4, .int (nI (sS σ e))), (3, .int (nI 1)), (0, .ref (m 0)), (1, .int (nI e)), (2, .int (nI (fS σ e)))]) hx hb dX5_settle_92 hl (by decide) rfl (fun ls hl => ?_)
              refine lv_iconst (v := nI 0) hx hb dX5_settle_94 (by decide) ?_
              refine lv_istore (lv' := [(6, .int (nI 0)), (5, .int (nI (sD σ e))), (4, .int (nI (sS σ e))), (3, .int (nI 1)), (0, .ref (m 0)), (1, .int (nI e)), (2, .int (nI (fS σ e)))]) hx hb dX5_settle_95 hl (by decide) rfl (fun ls hl => ?_)
              refine lv_iconst (v := nI 0) hx hb dX5_settle_97 (by decide) ?_
              refine lv_istore (lv' := [(7, .int (nI 0)), (6, .int (nI 0)), (5, .int (nI (sD σ e))), (4, .int (nI (sS σ e))), (3, .int (nI 1)), (0, .ref (m 0)), (1, .int (nI e)), (2, .int (nI (fS σ e)))]) hx hb dX5_settle_98 hl (by decide) rfl (fun ls hl => ?_)
              have loop100 : ∀ (n : Nat) (p : Nat) (τ : Nat → Nat) (c : Nat) (hτ : τ = stl σ (fS σ e) (fD σ e) (sS σ e) (sD σ e) p) (hxc : c = stc σ (fS σ e) (fD σ e) (sS σ e) (sD σ e) p) (hz : ∀ j, j < p → sBad (stl σ (fS σ e) (fD σ e) (sS σ e) (sD σ e) j) (fS σ e) (fD σ e) (sS σ e) (sD σ e) j = false) (hOτ : Ok N τ) (hp : p ≤ 10) (hcp : c ≤ p) (hn : 10 < p + n) (ls : Array Slot) (hl : lv_has ls 10 [(0, .ref (m 0)), (1, .int (nI e)), (2, .int (nI (fS σ e))), (3, .int (nI 1)), (4, .int (nI (sS σ e))), (5, .int (nI (sD σ e))), (6, .int (nI c)), (7, .int (nI p))]) (H : Heap) (locs : List Loc) (hP : va_P G.1 vwCl (wM G m τ V σ ns x len B) H) (hD : va_D (zA (wM G m σ V ζ ns x len B)) (wM G m τ V σ ns x len B)) (hS : va_S (zA (wM G m σ V ζ ns x len B)) st.heap H locs), W pr l en (zRm 4 91) st mi ar bl me cd H locs 0 0 Q (F0 mi 100 ls []) := by
                intro n
                induction n with
                | zero => intro p τ c hτ hxc hz hOτ hp hcp hn ls hl H locs hP hD hS; exfalso; omega
                | succ n ih100 =>
                  intro p τ c hτ hxc hz hOτ hp hcp hn ls hl H locs hP hD hS
                  refine lv_iload hx hb dX5_settle_100 (lv_at hl 7 rfl) ?_
                  refine lv_bipush (v := nI 10) hx hb dX5_settle_102 (by decide) ?_
                  refine lv_icmp_ge (tgt := 203) hx hb dX5_settle_104 (by decide) (fun h104 => ?_) (fun h104 => ?_)
                  · skip
                    have h104 : 10 ≤ p := (nI_leI (by omega) (by omega)).mp h104
                    exfalso; have hB : sbd σ (fS σ e) (fD σ e) (sS σ e) (sD σ e) = 10 := fst1_no (fun j hj => hz j (by omega)); omega
                  · skip
                    have h104 : ¬ (10 ≤ p) := fun q => h104 ((nI_leI (by omega) (by omega)).mpr q)
                    have t0 : τ 0 = σ 0 := by rw [hτ]; exact stl_lo (by omega) p
                    have t1 : τ 1 = σ 1 := by rw [hτ]; exact stl_lo (by omega) p
                    have tE := nE_lo t0 t1
                    have tf := fS_lo t0 t1 e
                    have ts := sS_lo t0 t1 e
                    have tfd := fD_lo t0 t1 e
                    have tsd := sD_lo t0 t1 e
                    refine lv_aload_n hx hb dX5_settle_107 rfl (lv_at hl 0 rfl) ?_
                    refine lv_iload hx hb dX5_settle_108 (lv_at hl 4 rfl) ?_
                    refine lv_iload hx hb dX5_settle_110 (lv_at hl 5 rfl) ?_
                    refine lv_iload hx hb dX5_settle_112 (lv_at hl 7 rfl) ?_
                    refine zrdV (As := [.int (nI (sS σ e)), .int (nI (sD σ e)), .int (nI p)]) ⟨hx, hb, hml, hown, hts⟩ (kX5_signAt l G m τ V σ ns x len B (sS σ e) (sD σ e) p (by omega) (by omega) (by omega)) (cwV 3 hts gX5_settle_X5_signAt rfl rfl rfl (by decide +kernel) ⟨Nat.le_of_ble_eq_true rfl, Nat.le_of_ble_eq_true rfl⟩) hG (va_recv (q0 := 0) (ci := 5) hG.1 hP rfl rfl) (hP) rfl rfl hl.1 dX5_settle_114 (Nat.le_of_ble_eq_true rfl) ⟨Nat.le_of_ble_eq_true rfl, Nat.le_of_ble_eq_true rfl⟩ ?_
                    refine lv_istore (lv' := [(8, .int (nI (sgn τ (sS σ e) (sD σ e) p))), (0, .ref (m 0)), (1, .int (nI e)), (2, .int (nI (fS σ e))), (3, .int (nI 1)), (4, .int (nI (sS σ e))), (5, .int (nI (sD σ e))), (6, .int (nI c)), (7, .int (nI p))]) hx hb dX5_settle_117 hl (by decide) rfl (fun ls hl => ?_)
                    refine lv_aload_n hx hb dX5_settle_119 rfl (lv_at hl 1 rfl) ?_
                    refine lv_iload hx hb dX5_settle_120 (lv_at hl 5 rfl) ?_
                    refine lv_iload hx hb dX5_settle_122 (lv_at hl 0 rfl) ?_
                    refine lv_iload_n hx hb dX5_settle_124 rfl (lv_at hl 4 rfl) ?_
                    refine lv_if_eq (tgt := 138) hx hb dX5_settle_125 (by decide) (fun h125 => ?_) (fun h125 => ?_)
                    · skip
                      have h125 : 1 = 0 := (z_eq0 (by omega)).mp h125
                      exfalso; omega
                    · skip
                      have h125 : ¬ (1 = 0) := fun q => h125 ((z_eq0 (by omega)).mpr q)
                      have h125 : 0 < 1 := Nat.pos_of_ne_zero h125
                      refine lv_aload_n hx hb dX5_settle_128 rfl (lv_at hl 1 rfl) ?_
                      refine lv_iload_n hx hb dX5_settle_129 rfl (lv_at hl 2 rfl) ?_
                      refine lv_iload hx hb dX5_settle_130 (lv_at hl 8 rfl) ?_
                      refine zrdV (As := [.int (nI e), .int (nI p)]) ⟨hx, hb, hml, hown, hts⟩ (kX5_firstMeans l G m τ V σ ns x len B e p (hOτ) (by omega) (by omega)) (cwV 2 hts gX5_settle_X5_firstMeans rfl rfl rfl (by decide +kernel) ⟨Nat.le_of_ble_eq_true rfl, Nat.le_of_ble_eq_true rfl⟩) hG (va_recv (q0 := 0) (ci := 5) hG.1 hP rfl rfl) (hP) rfl rfl hl.1 dX5_settle_132 (Nat.le_of_ble_eq_true rfl) ⟨Nat.le_of_ble_eq_true rfl, Nat.le_of_ble_eq_true rfl⟩ ?_
                      have hf132_0 := hOτ.mn (show fS τ (e) < 36 by have := hOτ.lF (show e < nE τ by omega); omega) (fD_lt τ (e)) (show p < 10 by omega)
                      refine lv_topi (nm_r (e' := nI (mns τ (fS σ e) (fD σ e) p)) (by rw [tf, tfd]) ?_)
                      refine lv_goto (tgt := 145) hx hb dX5_settle_135 (by decide) ?_
                      have hv10 := hOτ.mn (show fS σ e < 36 by omega) (show fD σ e < 4 by omega) (show p < 10 by omega)
                      have hs10 := hOτ.sg (show sS σ e < 36 by omega) (show sD σ e < 4 by omega) (show p < 10 by omega)
                      rcases (show mns τ (fS σ e) (fD σ e) p = 10 ∨ (mns τ (fS σ e) (fD σ e) p < 10 ∧ (sgn τ (sS σ e) (sD σ e) p < 10 ∧ mng τ (sS σ e) (sgn τ (sS σ e) (sD σ e) p) = mns τ (fS σ e) (fD σ e) p)) ∨ (mns τ (fS σ e) (fD σ e) p < 10 ∧ ¬ (sgn τ (sS σ e) (sD σ e) p < 10 ∧ mng τ (sS σ e) (sgn τ (sS σ e) (sD σ e) p) = mns τ (fS σ e) (fD σ e) p)) by by_cases z : mns τ (fS σ e) (fD σ e) p = 10; exact Or.inl z; right; by_cases y : sgn τ (sS σ e) (sD σ e) p < 10 ∧ mng τ (sS σ e) (sgn τ (sS σ e) (sD σ e) p) = mns τ (fS σ e) (fD σ e) p; exact Or.inl ⟨by omega, y⟩; exact Or.inr ⟨by omega, y⟩) with hva | hvb | hvb
                      · skip
                        rw [show nI (mns τ (fS σ e) (fD σ e) p) = nI 10 by rw [hva]]
                        refine zrdV (As := [.int (nI (sS σ e)), .int (nI (sgn τ (sS σ e) (sD σ e) p)), .int (nI 10)]) ⟨hx, hb, hml, hown, hts⟩ (kX5_signFor_10 l G m τ V σ ns x len B (sS σ e) (sgn τ (sS σ e) (sD σ e) p)) (cwV 3 hts gX5_settle_X5_signFor rfl rfl rfl (by decide +kernel) ⟨Nat.le_of_ble_eq_true rfl, Nat.le_of_ble_eq_true rfl⟩) hG (va_recv (q0 := 0) (ci := 5) hG.1 hP rfl rfl) (hP) rfl rfl hl.1 dX5_settle_145 (Nat.le_of_ble_eq_true rfl) ⟨Nat.le_of_ble_eq_true rfl, Nat.le_of_ble_eq_true rfl⟩ ?_
                        refine lv_istore (lv' := [(9, .int (nI 10)), (8, .int (nI (sgn τ (sS σ e) (sD σ e) p))), (0, .ref (m 0)), (1, .int (nI e)), (2, .int (nI (fS σ e))), (3, .int (nI 1)), (4, .int (nI (sS σ e))), (5, .int (nI (sD σ e))), (6, .int (nI c)), (7, .int (nI p))]) hx hb dX5_settle_148 hl (by decide) rfl (fun ls hl => ?_)
                        refine lv_iload hx hb dX5_settle_150 (lv_at hl 0 rfl) ?_
                        refine lv_bipush (v := (-4)) hx hb dX5_settle_152 (by decide) ?_
                        refine lv_icmp_ne (tgt := 164) hx hb dX5_settle_154 (by decide) (fun h154 => ?_) (fun h154 => ?_)
                        · skip
                          have h154 : ¬ (False) := fun q => h154 ((iff_of_false (z_m4 (by omega)) id).mpr q)
                          refine lv_iload hx hb dX5_settle_164 (lv_at hl 8 rfl) ?_
                          refine lv_iload hx hb dX5_settle_166 (lv_at hl 0 rfl) ?_
                          refine lv_iload hx hb dX5_settle_168 (lv_at hl 1 rfl) ?_
                          refine lv_icmp_ne (tgt := 177) hx hb dX5_settle_170 (by decide) (fun h170 => ?_) (fun h170 => ?_)
                          · skip
                            have h170 : ¬ (10 = (sgn τ (sS σ e) (sD σ e) p)) := fun q => h170 ((nI_eq (by omega) (by omega)).mpr q)
                            refine lv_iconst (v := nI 1) hx hb dX5_settle_177 (by decide) ?_
                            refine lv_iadd hx hb dX5_settle_178 ?_
                            refine lv_topi (nm_r (e' := nI (c + 1)) (nI_add _ _) ?_)
                            refine lv_istore (lv' := [(6, .int (nI (c + 1))), (9, .int (nI 10)), (8, .int (nI (sgn τ (sS σ e) (sD σ e) p))), (0, .ref (m 0)), (1, .int (nI e)), (2, .int (nI (fS σ e))), (3, .int (nI 1)), (4, .int (nI (sS σ e))), (5, .int (nI (sD σ e))), (7, .int (nI p))]) hx hb dX5_settle_179 hl (by decide) rfl (fun ls hl => ?_)
                            refine lv_aload_n hx hb dX5_settle_181 rfl (lv_at hl 3 rfl) ?_
                            refine lv_iload hx hb dX5_settle_182 (lv_at hl 7 rfl) ?_
                            refine lv_bipush (v := nI 10) hx hb dX5_settle_184 (by decide) ?_
                            refine lv_iload hx hb dX5_settle_186 (lv_at hl 8 rfl) ?_
                            refine lv_imul hx hb dX5_settle_188 ?_
                            refine lv_topi (nm_r (e' := nI (10 * (sD σ e))) (pk_mul _ _) ?_)
                            refine lv_iload hx hb dX5_settle_189 (lv_at hl 9 rfl) ?_
                            refine lv_iadd hx hb dX5_settle_191 ?_
                            refine lv_topi (nm_r (e' := nI ((10 * (sD σ e)) + p)) (nI_add _ _) ?_)
                            refine lv_iload hx hb dX5_settle_192 (lv_at hl 1 rfl) ?_
                            refine zwrWv (G := G) (wc := (wM G m τ V σ ns x len B)) (wc' := (wM G m (su τ (64 + 53 * (sS σ e) + ((10 * (sD σ e)) + p)) 10) V σ ns x len B)) (va_runV (As := [.int (nI (sS σ e)), .int (nI ((10 * (sD σ e)) + p)), .int (nI 10)]) (rest := []) ⟨hx, hb, hml, hown, hts⟩ (kX5_puts l G m τ V σ ns x len B (sS σ e) ((10 * (sD σ e)) + p) 10 (by omega) (by omega) (by omega) (zD_any hD)) (cwV 3 hts gX5_settle_X5_puts rfl rfl rfl (by decide +kernel) ⟨Nat.le_of_ble_eq_true rfl, Nat.le_of_ble_eq_true rfl⟩) (zPreV hG (va_recv (q0 := 0) (ci := 5) hG.1 hP rfl rfl) (hP)) rfl rfl hl.1 rfl (lv_room (Nat.le_of_ble_eq_true rfl)) dX5_settle_194 ⟨Nat.le_of_ble_eq_true rfl, Nat.le_of_ble_eq_true rfl⟩) hP hD hS (wM_map ..) (fun H locs hP hD hS => ?_)
                            have hP : va_P G.1 vwCl (wM G m (su τ (64 + 53 * (sS σ e) + ((10 * (sD σ e)) + p)) 10) V σ ns x len B) H := hP
                            have hD : va_D (zA (wM G m σ V ζ ns x len B)) (wM G m (su τ (64 + 53 * (sS σ e) + ((10 * (sD σ e)) + p)) 10) V σ ns x len B) := hD
                            refine lv_iinc (v := nI (p + 1)) (lv' := [(7, .int (nI (p + 1))), (6, .int (nI (c + 1))), (9, .int (nI 10)), (8, .int (nI (sgn τ (sS σ e) (sD σ e) p))), (0, .ref (m 0)), (1, .int (nI e)), (2, .int (nI (fS σ e))), (3, .int (nI 1)), (4, .int (nI (sS σ e))), (5, .int (nI (sD σ e)))]) hx hb dX5_settle_197 hl (k := 9) rfl (zinc1 _) (by decide) rfl (fun ls hl => ?_)
                            refine lv_goto (tgt := 100) hx hb dX5_settle_200 (by decide) ?_
                            exact ih100 (p + 1) (su τ (64 + 53 * (sS σ e) + ((10 * (sD σ e)) + p)) 10) (c + 1) (by rw [stl, ← hτ]; exact (stS_eq hOτ (k1 := fS σ e) (d1 := fD σ e) (show sS σ e < 36 by omega) (show sD σ e < 4 by omega) (show p < 10 by omega) (nw := 10) (Or.inl ⟨hva, rfl⟩)).1) (by unfold stc at hxc ⊢; rw [sm, ← hxc, ← hτ, if_neg (fun z => h170 ((stS_eq hOτ (k1 := fS σ e) (d1 := fD σ e) (show sS σ e < 36 by omega) (show sD σ e < 4 by omega) (show p < 10 by omega) (nw := 10) (Or.inl ⟨hva, rfl⟩)).2.mpr z))]) (fun j hj => by rcases Nat.lt_succ_iff_lt_or_eq.mp hj with q | q; exact hz j q; (rw [q, ← hτ]; exact decide_eq_false (fun z => z.2.1 hva))) (hOτ.su_sg (by omega) (by omega)) (by omega) (by omega) (by omega) _ (lv_sub hl [4, 5, 6, 7, 8, 9, 1, 0] rfl) _ _ (hP) (hD) hS
                          · skip
                            have h170 : 10 = (sgn τ (sS σ e) (sD σ e) p) := (nI_eq (by omega) (by omega)).mp h170
                            refine lv_iconst (v := nI 0) hx hb dX5_settle_173 (by decide) ?_
                            refine lv_goto (tgt := 178) hx hb dX5_settle_174 (by decide) ?_
                            refine lv_iadd hx hb dX5_settle_178 ?_
                            refine lv_topi (nm_r (e' := nI (c + 0)) (nI_add _ _) ?_)
                            refine lv_istore (lv' := [(6, .int (nI (c + 0))), (9, .int (nI 10)), (8, .int (nI (sgn τ (sS σ e) (sD σ e) p))), (0, .ref (m 0)), (1, .int (nI e)), (2, .int (nI (fS σ e))), (3, .int (nI 1)), (4, .int (nI (sS σ e))), (5, .int (nI (sD σ e))), (7, .int (nI p))]) hx hb dX5_settle_179 hl (by decide) rfl (fun ls hl => ?_)
                            refine lv_aload_n hx hb dX5_settle_181 rfl (lv_at hl 3 rfl) ?_
                            refine lv_iload hx hb dX5_settle_182 (lv_at hl 7 rfl) ?_
                            refine lv_bipush (v := nI 10) hx hb dX5_settle_184 (by decide) ?_
                            refine lv_iload hx hb dX5_settle_186 (lv_at hl 8 rfl) ?_
                            refine lv_imul hx hb dX5_settle_188 ?_
                            refine lv_topi (nm_r (e' := nI (10 * (sD σ e))) (pk_mul _ _) ?_)
                            refine lv_iload hx hb dX5_settle_189 (lv_at hl 9 rfl) ?_
                            refine lv_iadd hx hb dX5_settle_191 ?_
                            refine lv_topi (nm_r (e' := nI ((10 * (sD σ e)) + p)) (nI_add _ _) ?_)
                            refine lv_iload hx hb dX5_settle_192 (lv_at hl 1 rfl) ?_
                            refine zwrWv (G := G) (wc := (wM G m τ V σ ns x len B)) (wc' := (wM G m (su τ (64 + 53 * (sS σ e) + ((10 * (sD σ e)) + p)) 10) V σ ns x len B)) (va_runV (As := [.int (nI (sS σ e)), .int (nI ((10 * (sD σ e)) + p)), .int (nI 10)]) (rest := []) ⟨hx, hb, hml, hown, hts⟩ (kX5_puts l G m τ V σ ns x len B (sS σ e) ((10 * (sD σ e)) + p) 10 (by omega) (by omega) (by omega) (zD_any hD)) (cwV 3 hts gX5_settle_X5_puts rfl rfl rfl (by decide +kernel) ⟨Nat.le_of_ble_eq_true rfl, Nat.le_of_ble_eq_true rfl⟩) (zPreV hG (va_recv (q0 := 0) (ci := 5) hG.1 hP rfl rfl) (hP)) rfl rfl hl.1 rfl (lv_room (Nat.le_of_ble_eq_true rfl)) dX5_settle_194 ⟨Nat.le_of_ble_eq_true rfl, Nat.le_of_ble_eq_true rfl⟩) hP hD hS (wM_map ..) (fun H locs hP hD hS => ?_)
                            have hP : va_P G.1 vwCl (wM G m (su τ (64 + 53 * (sS σ e) + ((10 * (sD σ e)) + p)) 10) V σ ns x len B) H := hP
                            have hD : va_D (zA (wM G m σ V ζ ns x len B)) (wM G m (su τ (64 + 53 * (sS σ e) + ((10 * (sD σ e)) + p)) 10) V σ ns x len B) := hD
                            refine lv_iinc (v := nI (p + 1)) (lv' := [(7, .int (nI (p + 1))), (6, .int (nI (c + 0))), (9, .int (nI 10)), (8, .int (nI (sgn τ (sS σ e) (sD σ e) p))), (0, .ref (m 0)), (1, .int (nI e)), (2, .int (nI (fS σ e))), (3, .int (nI 1)), (4, .int (nI (sS σ e))), (5, .int (nI (sD σ e)))]) hx hb dX5_settle_197 hl (k := 9) rfl (zinc1 _) (by decide) rfl (fun ls hl => ?_)
                            refine lv_goto (tgt := 100) hx hb dX5_settle_200 (by decide) ?_
                            exact ih100 (p + 1) (su τ (64 + 53 * (sS σ e) + ((10 * (sD σ e)) + p)) 10) (c + 0) (by rw [stl, ← hτ]; exact (stS_eq hOτ (k1 := fS σ e) (d1 := fD σ e) (show sS σ e < 36 by omega) (show sD σ e < 4 by omega) (show p < 10 by omega) (nw := 10) (Or.inl ⟨hva, rfl⟩)).1) (by unfold stc at hxc ⊢; rw [sm, ← hxc, ← hτ, if_pos ((stS_eq hOτ (k1 := fS σ e) (d1 := fD σ e) (show sS σ e < 36 by omega) (show sD σ e < 4 by omega) (show p < 10 by omega) (nw := 10) (Or.inl ⟨hva, rfl⟩)).2.mp h170)]) (fun j hj => by rcases Nat.lt_succ_iff_lt_or_eq.mp hj with q | q; exact hz j q; (rw [q, ← hτ]; exact decide_eq_false (fun z => z.2.1 hva))) (hOτ.su_sg (by omega) (by omega)) (by omega) (by omega) (by omega) _ (lv_sub hl [4, 5, 6, 7, 8, 9, 1, 0] rfl) _ _ (hP) (hD) hS
                        · skip
                          have h154 : False := (iff_of_false (z_m4 (by omega)) id).mp h154
                          exact absurd h154 id
                      · skip
                        refine zrdV (As := [.int (nI (sS σ e)), .int (nI (sgn τ (sS σ e) (sD σ e) p)), .int (nI (mns τ (fS σ e) (fD σ e) p))]) ⟨hx, hb, hml, hown, hts⟩ (kX5_signFor_s l G m τ V σ ns x len B (sS σ e) (sgn τ (sS σ e) (sD σ e) p) (mns τ (fS σ e) (fD σ e) p) (hOτ) (by omega) (hvb.2.1) (hvb.1) (hvb.2.2)) (cwV 3 hts gX5_settle_X5_signFor rfl rfl rfl (by decide +kernel) ⟨Nat.le_of_ble_eq_true rfl, Nat.le_of_ble_eq_true rfl⟩) hG (va_recv (q0 := 0) (ci := 5) hG.1 hP rfl rfl) (hP) rfl rfl hl.1 dX5_settle_145 (Nat.le_of_ble_eq_true rfl) ⟨Nat.le_of_ble_eq_true rfl, Nat.le_of_ble_eq_true rfl⟩ ?_
                        refine lv_istore (lv' := [(9, .int (nI (sgn τ (sS σ e) (sD σ e) p))), (8, .int (nI (sgn τ (sS σ e) (sD σ e) p))), (0, .ref (m 0)), (1, .int (nI e)), (2, .int (nI (fS σ e))), (3, .int (nI 1)), (4, .int (nI (sS σ e))), (5, .int (nI (sD σ e))), (6, .int (nI c)), (7, .int (nI p))]) hx hb dX5_settle_148 hl (by decide) rfl (fun ls hl => ?_)
                        refine lv_iload hx hb dX5_settle_150 (lv_at hl 0 rfl) ?_
                        refine lv_bipush (v := (-4)) hx hb dX5_settle_152 (by decide) ?_
                        refine lv_icmp_ne (tgt := 164) hx hb dX5_settle_154 (by decide) (fun h154 => ?_) (fun h154 => ?_)
                        · skip
                          have h154 : ¬ (False) := fun q => h154 ((iff_of_false (z_m4 (by omega)) id).mpr q)
                          refine lv_iload hx hb dX5_settle_164 (lv_at hl 8 rfl) ?_
                          refine lv_iload hx hb dX5_settle_166 (lv_at hl 0 rfl) ?_
                          refine lv_iload hx hb dX5_settle_168 (lv_at hl 1 rfl) ?_
                          refine lv_icmp_ne (tgt := 177) hx hb dX5_settle_170 (by decide) (fun h170 => ?_) (fun h170 => ?_)
                          · skip
                            have h170 : ¬ ((sgn τ (sS σ e) (sD σ e) p) = (sgn τ (sS σ e) (sD σ e) p)) := fun q => h170 ((nI_eq (by omega) (by omega)).mpr q)
                            refine lv_iconst (v := nI 1) hx hb dX5_settle_177 (by decide) ?_
                            refine lv_iadd hx hb dX5_settle_178 ?_
                            refine lv_topi (nm_r (e' := nI (c + 1)) (nI_add _ _) ?_)
                            refine lv_istore (lv' := [(6, .int (nI (c + 1))), (9, .int (nI (sgn τ (sS σ e) (sD σ e) p))), (8, .int (nI (sgn τ (sS σ e) (sD σ e) p))), (0, .ref (m 0)), (1, .int (nI e)), (2, .int (nI (fS σ e))), (3, .int (nI 1)), (4, .int (nI (sS σ e))), (5, .int (nI (sD σ e))), (7, .int (nI p))]) hx hb dX5_settle_179 hl (by decide) rfl (fun ls hl => ?_)
                            refine lv_aload_n hx hb dX5_settle_181 rfl (lv_at hl 3 rfl) ?_
                            refine lv_iload hx hb dX5_settle_182 (lv_at hl 7 rfl) ?_
                            refine lv_bipush (v := nI 10) hx hb dX5_settle_184 (by decide) ?_
                            refine lv_iload hx hb dX5_settle_186 (lv_at hl 8 rfl) ?_
                            refine lv_imul hx hb dX5_settle_188 ?_
                            refine lv_topi (nm_r (e' := nI (10 * (sD σ e))) (pk_mul _ _) ?_)
                            refine lv_iload hx hb dX5_settle_189 (lv_at hl 9 rfl) ?_
                            refine lv_iadd hx hb dX5_settle_191 ?_
                            refine lv_topi (nm_r (e' := nI ((10 * (sD σ e)) + p)) (nI_add _ _) ?_)
                            refine lv_iload hx hb dX5_settle_192 (lv_at hl 1 rfl) ?_
                            refine zwrWv (G := G) (wc := (wM G m τ V σ ns x len B)) (wc' := (wM G m (su τ (64 + 53 * (sS σ e) + ((10 * (sD σ e)) + p)) (sgn τ (sS σ e) (sD σ e) p)) V σ ns x len B)) (va_runV (As := [.int (nI (sS σ e)), .int (nI ((10 * (sD σ e)) + p)), .int (nI (sgn τ (sS σ e) (sD σ e) p))]) (rest := []) ⟨hx, hb, hml, hown, hts⟩ (kX5_puts l G m τ V σ ns x len B (sS σ e) ((10 * (sD σ e)) + p) (sgn τ (sS σ e) (sD σ e) p) (by omega) (by omega) (by omega) (zD_any hD)) (cwV 3 hts gX5_settle_X5_puts rfl rfl rfl (by decide +kernel) ⟨Nat.le_of_ble_eq_true rfl, Nat.le_of_ble_eq_true rfl⟩) (zPreV hG (va_recv (q0 := 0) (ci := 5) hG.1 hP rfl rfl) (hP)) rfl rfl hl.1 rfl (lv_room (Nat.le_of_ble_eq_true rfl)) dX5_settle_194 ⟨Nat.le_of_ble_eq_true rfl, Nat.le_of_ble_eq_true rfl⟩) hP hD hS (wM_map ..) (fun H locs hP hD hS => ?_)
                            have hP : va_P G.1 vwCl (wM G m (su τ (64 + 53 * (sS σ e) + ((10 * (sD σ e)) + p)) (sgn τ (sS σ e) (sD σ e) p)) V σ ns x len B) H := hP
                            have hD : va_D (zA (wM G m σ V ζ ns x len B)) (wM G m (su τ (64 + 53 * (sS σ e) + ((10 * (sD σ e)) + p)) (sgn τ (sS σ e) (sD σ e) p)) V σ ns x len B) := hD
                            refine lv_iinc (v := nI (p + 1)) (lv' := [(7, .int (nI (p + 1))), (6, .int (nI (c + 1))), (9, .int (nI (sgn τ (sS σ e) (sD σ e) p))), (8, .int (nI (sgn τ (sS σ e) (sD σ e) p))), (0, .ref (m 0)), (1, .int (nI e)), (2, .int (nI (fS σ e))), (3, .int (nI 1)), (4, .int (nI (sS σ e))), (5, .int (nI (sD σ e)))]) hx hb dX5_settle_197 hl (k := 9) rfl (zinc1 _) (by decide) rfl (fun ls hl => ?_)
                            refine lv_goto (tgt := 100) hx hb dX5_settle_200 (by decide) ?_
                            exact ih100 (p + 1) (su τ (64 + 53 * (sS σ e) + ((10 * (sD σ e)) + p)) (sgn τ (sS σ e) (sD σ e) p)) (c + 1) (by rw [stl, ← hτ]; exact (stS_eq hOτ (k1 := fS σ e) (d1 := fD σ e) (show sS σ e < 36 by omega) (show sD σ e < 4 by omega) (show p < 10 by omega) (nw := (sgn τ (sS σ e) (sD σ e) p)) (Or.inr (Or.inl ⟨by omega, hvb.2.1, hvb.2.2, rfl⟩))).1) (by unfold stc at hxc ⊢; rw [sm, ← hxc, ← hτ, if_neg (fun z => h170 ((stS_eq hOτ (k1 := fS σ e) (d1 := fD σ e) (show sS σ e < 36 by omega) (show sD σ e < 4 by omega) (show p < 10 by omega) (nw := (sgn τ (sS σ e) (sD σ e) p)) (Or.inr (Or.inl ⟨by omega, hvb.2.1, hvb.2.2, rfl⟩))).2.mpr z))]) (fun j hj => by rcases Nat.lt_succ_iff_lt_or_eq.mp hj with q | q; exact hz j q; (rw [q, ← hτ]; exact decide_eq_false (fun z => z.1 ((stS_eq hOτ (k1 := fS σ e) (d1 := fD σ e) (show sS σ e < 36 by omega) (show sD σ e < 4 by omega) (show p < 10 by omega) (nw := (sgn τ (sS σ e) (sD σ e) p)) (Or.inr (Or.inl ⟨by omega, hvb.2.1, hvb.2.2, rfl⟩))).2.mp rfl)))) (hOτ.su_sg (by omega) (by omega)) (by omega) (by omega) (by omega) _ (lv_sub hl [4, 5, 6, 7, 8, 9, 1, 0] rfl) _ _ (hP) (hD) hS
                          · skip
                            have h170 : (sgn τ (sS σ e) (sD σ e) p) = (sgn τ (sS σ e) (sD σ e) p) := (nI_eq (by omega) (by omega)).mp h170
                            refine lv_iconst (v := nI 0) hx hb dX5_settle_173 (by decide) ?_
                            refine lv_goto (tgt := 178) hx hb dX5_settle_174 (by decide) ?_
                            refine lv_iadd hx hb dX5_settle_178 ?_
                            refine lv_topi (nm_r (e' := nI (c + 0)) (nI_add _ _) ?_)
                            refine lv_istore (lv' := [(6, .int (nI (c + 0))), (9, .int (nI (sgn τ (sS σ e) (sD σ e) p))), (8, .int (nI (sgn τ (sS σ e) (sD σ e) p))), (0, .ref (m 0)), (1, .int (nI e)), (2, .int (nI (fS σ e))), (3, .int (nI 1)), (4, .int (nI (sS σ e))), (5, .int (nI (sD σ e))), (7, .int (nI p))]) hx hb dX5_settle_179 hl (by decide) rfl (fun ls hl => ?_)
                            refine lv_aload_n hx hb dX5_settle_181 rfl (lv_at hl 3 rfl) ?_
                            refine lv_iload hx hb dX5_settle_182 (lv_at hl 7 rfl) ?_
                            refine lv_bipush (v := nI 10) hx hb dX5_settle_184 (by decide) ?_
                            refine lv_iload hx hb dX5_settle_186 (lv_at hl 8 rfl) ?_
                            refine lv_imul hx hb dX5_settle_188 ?_
                            refine lv_topi (nm_r (e' := nI (10 * (sD σ e))) (pk_mul _ _) ?_)
                            refine lv_iload hx hb dX5_settle_189 (lv_at hl 9 rfl) ?_
                            refine lv_iadd hx hb dX5_settle_191 ?_
                            refine lv_topi (nm_r (e' := nI ((10 * (sD σ e)) + p)) (nI_add _ _) ?_)
                            refine lv_iload hx hb dX5_settle_192 (lv_at hl 1 rfl) ?_
                            refine zwrWv (G := G) (wc := (wM G m τ V σ ns x len B)) (wc' := (wM G m (su τ (64 + 53 * (sS σ e) + ((10 * (sD σ e)) + p)) (sgn τ (sS σ e) (sD σ e) p)) V σ ns x len B)) (va_runV (As := [.int (nI (sS σ e)), .int (nI ((10 * (sD σ e)) + p)), .int (nI (sgn τ (sS σ e) (sD σ e) p))]) (rest := []) ⟨hx, hb, hml, hown, hts⟩ (kX5_puts l G m τ V σ ns x len B (sS σ e) ((10 * (sD σ e)) + p) (sgn τ (sS σ e) (sD σ e) p) (by omega) (by omega) (by omega) (zD_any hD)) (cwV 3 hts gX5_settle_X5_puts rfl rfl rfl (by decide +kernel) ⟨Nat.le_of_ble_eq_true rfl, Nat.le_of_ble_eq_true rfl⟩) (zPreV hG (va_recv (q0 := 0) (ci := 5) hG.1 hP rfl rfl) (hP)) rfl rfl hl.1 rfl (lv_room (Nat.le_of_ble_eq_true rfl)) dX5_settle_194 ⟨Nat.le_of_ble_eq_true rfl, Nat.le_of_ble_eq_true rfl⟩) hP hD hS (wM_map ..) (fun H locs hP hD hS => ?_)
                            have hP : va_P G.1 vwCl (wM G m (su τ (64 + 53 * (sS σ e) + ((10 * (sD σ e)) + p)) (sgn τ (sS σ e) (sD σ e) p)) V σ ns x len B) H := hP
                            have hD : va_D (zA (wM G m σ V ζ ns x len B)) (wM G m (su τ (64 + 53 * (sS σ e) + ((10 * (sD σ e)) + p)) (sgn τ (sS σ e) (sD σ e) p)) V σ ns x len B) := hD
                            refine lv_iinc (v := nI (p + 1)) (lv' := [(7, .int (nI (p + 1))), (6, .int (nI (c + 0))), (9, .int (nI (sgn τ (sS σ e) (sD σ e) p))), (8, .int (nI (sgn τ (sS σ e) (sD σ e) p))), (0, .ref (m 0)), (1, .int (nI e)), (2, .int (nI (fS σ e))), (3, .int (nI 1)), (4, .int (nI (sS σ e))), (5, .int (nI (sD σ e)))]) hx hb dX5_settle_197 hl (k := 9) rfl (zinc1 _) (by decide) rfl (fun ls hl => ?_)
                            refine lv_goto (tgt := 100) hx hb dX5_settle_200 (by decide) ?_
                            exact ih100 (p + 1) (su τ (64 + 53 * (sS σ e) + ((10 * (sD σ e)) + p)) (sgn τ (sS σ e) (sD σ e) p)) (c + 0) (by rw [stl, ← hτ]; exact (stS_eq hOτ (k1 := fS σ e) (d1 := fD σ e) (show sS σ e < 36 by omega) (show sD σ e < 4 by omega) (show p < 10 by omega) (nw := (sgn τ (sS σ e) (sD σ e) p)) (Or.inr (Or.inl ⟨by omega, hvb.2.1, hvb.2.2, rfl⟩))).1) (by unfold stc at hxc ⊢; rw [sm, ← hxc, ← hτ, if_pos ((stS_eq hOτ (k1 := fS σ e) (d1 := fD σ e) (show sS σ e < 36 by omega) (show sD σ e < 4 by omega) (show p < 10 by omega) (nw := (sgn τ (sS σ e) (sD σ e) p)) (Or.inr (Or.inl ⟨by omega, hvb.2.1, hvb.2.2, rfl⟩))).2.mp h170)]) (fun j hj => by rcases Nat.lt_succ_iff_lt_or_eq.mp hj with q | q; exact hz j q; (rw [q, ← hτ]; exact decide_eq_false (fun z => z.1 ((stS_eq hOτ (k1 := fS σ e) (d1 := fD σ e) (show sS σ e < 36 by omega) (show sD σ e < 4 by omega) (show p < 10 by omega) (nw := (sgn τ (sS σ e) (sD σ e) p)) (Or.inr (Or.inl ⟨by omega, hvb.2.1, hvb.2.2, rfl⟩))).2.mp rfl)))) (hOτ.su_sg (by omega) (by omega)) (by omega) (by omega) (by omega) _ (lv_sub hl [4, 5, 6, 7, 8, 9, 1, 0] rfl) _ _ (hP) (hD) hS
                        · skip
                          have h154 : False := (iff_of_false (z_m4 (by omega)) id).mp h154
                          exact absurd h154 id
                      · skip
                        refine zrdV (As := [.int (nI (sS σ e)), .int (nI (sgn τ (sS σ e) (sD σ e) p)), .int (nI (mns τ (fS σ e) (fD σ e) p))]) ⟨hx, hb, hml, hown, hts⟩ (kX5_signFor_l l G m τ V σ ns x len B (sS σ e) (sgn τ (sS σ e) (sD σ e) p) (mns τ (fS σ e) (fD σ e) p) (hOτ) (by omega) (hs10) (hvb.1) (hvb.2)) (cwV 3 hts gX5_settle_X5_signFor rfl rfl rfl (by decide +kernel) ⟨Nat.le_of_ble_eq_true rfl, Nat.le_of_ble_eq_true rfl⟩) hG (va_recv (q0 := 0) (ci := 5) hG.1 hP rfl rfl) (hP) rfl rfl hl.1 dX5_settle_145 (Nat.le_of_ble_eq_true rfl) ⟨Nat.le_of_ble_eq_true rfl, Nat.le_of_ble_eq_true rfl⟩ ?_
                        have hf145_0 := lws_le τ ((sS σ e)) ((mns τ (fS σ e) (fD σ e) p))
                        refine lv_istore (lv' := [(9, .int (zc 10 (lws τ (sS σ e) (mns τ (fS σ e) (fD σ e) p)))), (8, .int (nI (sgn τ (sS σ e) (sD σ e) p))), (0, .ref (m 0)), (1, .int (nI e)), (2, .int (nI (fS σ e))), (3, .int (nI 1)), (4, .int (nI (sS σ e))), (5, .int (nI (sD σ e))), (6, .int (nI c)), (7, .int (nI p))]) hx hb dX5_settle_148 hl (by decide) rfl (fun ls hl => ?_)
                        refine lv_iload hx hb dX5_settle_150 (lv_at hl 0 rfl) ?_
                        refine lv_bipush (v := (-4)) hx hb dX5_settle_152 (by decide) ?_
                        refine lv_icmp_ne (tgt := 164) hx hb dX5_settle_154 (by decide) (fun h154 => ?_) (fun h154 => ?_)
                        · skip
                          have h154 : ¬ (lws τ (sS σ e) (mns τ (fS σ e) (fD σ e) p) = 10) := fun q => h154 ((zc_m4 (by omega)).mpr q)
                          rw [show zc 10 (lws τ (sS σ e) (mns τ (fS σ e) (fD σ e) p)) = nI (lws τ (sS σ e) (mns τ (fS σ e) (fD σ e) p)) from zc_n h154] at hl
                          refine lv_iload hx hb dX5_settle_164 (lv_at hl 8 rfl) ?_
                          refine lv_iload hx hb dX5_settle_166 (lv_at hl 0 rfl) ?_
                          refine lv_iload hx hb dX5_settle_168 (lv_at hl 1 rfl) ?_
                          refine lv_icmp_ne (tgt := 177) hx hb dX5_settle_170 (by decide) (fun h170 => ?_) (fun h170 => ?_)
                          · skip
                            have h170 : ¬ ((lws τ (sS σ e) (mns τ (fS σ e) (fD σ e) p)) = (sgn τ (sS σ e) (sD σ e) p)) := fun q => h170 ((nI_eq (by omega) (by omega)).mpr q)
                            refine lv_iconst (v := nI 1) hx hb dX5_settle_177 (by decide) ?_
                            refine lv_iadd hx hb dX5_settle_178 ?_
                            refine lv_topi (nm_r (e' := nI (c + 1)) (nI_add _ _) ?_)
                            refine lv_istore (lv' := [(6, .int (nI (c + 1))), (9, .int (nI (lws τ (sS σ e) (mns τ (fS σ e) (fD σ e) p)))), (8, .int (nI (sgn τ (sS σ e) (sD σ e) p))), (0, .ref (m 0)), (1, .int (nI e)), (2, .int (nI (fS σ e))), (3, .int (nI 1)), (4, .int (nI (sS σ e))), (5, .int (nI (sD σ e))), (7, .int (nI p))]) hx hb dX5_settle_179 hl (by decide) rfl (fun ls hl => ?_)
                            refine lv_aload_n hx hb dX5_settle_181 rfl (lv_at hl 3 rfl) ?_
                            refine lv_iload hx hb dX5_settle_182 (lv_at hl 7 rfl) ?_
                            refine lv_bipush (v := nI 10) hx hb dX5_settle_184 (by decide) ?_
                            refine lv_iload hx hb dX5_settle_186 (lv_at hl 8 rfl) ?_
                            refine lv_imul hx hb dX5_settle_188 ?_
                            refine lv_topi (nm_r (e' := nI (10 * (sD σ e))) (pk_mul _ _) ?_)
                            refine lv_iload hx hb dX5_settle_189 (lv_at hl 9 rfl) ?_
                            refine lv_iadd hx hb dX5_settle_191 ?_
                            refine lv_topi (nm_r (e' := nI ((10 * (sD σ e)) + p)) (nI_add _ _) ?_)
                            refine lv_iload hx hb dX5_settle_192 (lv_at hl 1 rfl) ?_
                            refine zwrWv (G := G) (wc := (wM G m τ V σ ns x len B)) (wc' := (wM G m (su τ (64 + 53 * (sS σ e) + ((10 * (sD σ e)) + p)) (lws τ (sS σ e) (mns τ (fS σ e) (fD σ e) p))) V σ ns x len B)) (va_runV (As := [.int (nI (sS σ e)), .int (nI ((10 * (sD σ e)) + p)), .int (nI (lws τ (sS σ e) (mns τ (fS σ e) (fD σ e) p)))]) (rest := []) ⟨hx, hb, hml, hown, hts⟩ (kX5_puts l G m τ V σ ns x len B (sS σ e) ((10 * (sD σ e)) + p) (lws τ (sS σ e) (mns τ (fS σ e) (fD σ e) p)) (by omega) (by omega) (by omega) (zD_any hD)) (cwV 3 hts gX5_settle_X5_puts rfl rfl rfl (by decide +kernel) ⟨Nat.le_of_ble_eq_true rfl, Nat.le_of_ble_eq_true rfl⟩) (zPreV hG (va_recv (q0 := 0) (ci := 5) hG.1 hP rfl rfl) (hP)) rfl rfl hl.1 rfl (lv_room (Nat.le_of_ble_eq_true rfl)) dX5_settle_194 ⟨Nat.le_of_ble_eq_true rfl, Nat.le_of_ble_eq_true rfl⟩) hP hD hS (wM_map ..) (fun H locs hP hD hS => ?_)
                            have hP : va_P G.1 vwCl (wM G m (su τ (64 + 53 * (sS σ e) + ((10 * (sD σ e)) + p)) (lws τ (sS σ e) (mns τ (fS σ e) (fD σ e) p))) V σ ns x len B) H := hP
                            have hD : va_D (zA (wM G m σ V ζ ns x len B)) (wM G m (su τ (64 + 53 * (sS σ e) + ((10 * (sD σ e)) + p)) (lws τ (sS σ e) (mns τ (fS σ e) (fD σ e) p))) V σ ns x len B) := hD
                            refine lv_iinc (v := nI (p + 1)) (lv' := [(7, .int (nI (p + 1))), (6, .int (nI (c + 1))), (9, .int (nI (lws τ (sS σ e) (mns τ (fS σ e) (fD σ e) p)))), (8, .int (nI (sgn τ (sS σ e) (sD σ e) p))), (0, .ref (m 0)), (1, .int (nI e)), (2, .int (nI (fS σ e))), (3, .int (nI 1)), (4, .int (nI (sS σ e))), (5, .int (nI (sD σ e)))]) hx hb dX5_settle_197 hl (k := 9) rfl (zinc1 _) (by decide) rfl (fun ls hl => ?_)
                            refine lv_goto (tgt := 100) hx hb dX5_settle_200 (by decide) ?_
                            exact ih100 (p + 1) (su τ (64 + 53 * (sS σ e) + ((10 * (sD σ e)) + p)) (lws τ (sS σ e) (mns τ (fS σ e) (fD σ e) p))) (c + 1) (by rw [stl, ← hτ]; exact (stS_eq hOτ (k1 := fS σ e) (d1 := fD σ e) (show sS σ e < 36 by omega) (show sD σ e < 4 by omega) (show p < 10 by omega) (nw := lws τ (sS σ e) (mns τ (fS σ e) (fD σ e) p)) (Or.inr (Or.inr ⟨by omega, hvb.2, rfl, h154⟩))).1) (by unfold stc at hxc ⊢; rw [sm, ← hxc, ← hτ, if_neg (fun z => h170 ((stS_eq hOτ (k1 := fS σ e) (d1 := fD σ e) (show sS σ e < 36 by omega) (show sD σ e < 4 by omega) (show p < 10 by omega) (nw := lws τ (sS σ e) (mns τ (fS σ e) (fD σ e) p)) (Or.inr (Or.inr ⟨by omega, hvb.2, rfl, h154⟩))).2.mpr z))]) (fun j hj => by rcases Nat.lt_succ_iff_lt_or_eq.mp hj with q | q; exact hz j q; (rw [q, ← hτ]; exact decide_eq_false (fun z => h154 z.2.2))) (hOτ.su_sg (by omega) (by omega)) (by omega) (by omega) (by omega) _ (lv_sub hl [4, 5, 6, 7, 8, 9, 1, 0] rfl) _ _ (hP) (hD) hS
                          · skip
                            have h170 : (lws τ (sS σ e) (mns τ (fS σ e) (fD σ e) p)) = (sgn τ (sS σ e) (sD σ e) p) := (nI_eq (by omega) (by omega)).mp h170
                            refine lv_iconst (v := nI 0) hx hb dX5_settle_173 (by decide) ?_
                            refine lv_goto (tgt := 178) hx hb dX5_settle_174 (by decide) ?_
                            refine lv_iadd hx hb dX5_settle_178 ?_
                            refine lv_topi (nm_r (e' := nI (c + 0)) (nI_add _ _) ?_)
                            refine lv_istore (lv' := [(6, .int (nI (c + 0))), (9, .int (nI (lws τ (sS σ e) (mns τ (fS σ e) (fD σ e) p)))), (8, .int (nI (sgn τ (sS σ e) (sD σ e) p))), (0, .ref (m 0)), (1, .int (nI e)), (2, .int (nI (fS σ e))), (3, .int (nI 1)), (4, .int (nI (sS σ e))), (5, .int (nI (sD σ e))), (7, .int (nI p))]) hx hb dX5_settle_179 hl (by decide) rfl (fun ls hl => ?_)
                            refine lv_aload_n hx hb dX5_settle_181 rfl (lv_at hl 3 rfl) ?_
                            refine lv_iload hx hb dX5_settle_182 (lv_at hl 7 rfl) ?_
                            refine lv_bipush (v := nI 10) hx hb dX5_settle_184 (by decide) ?_
                            refine lv_iload hx hb dX5_settle_186 (lv_at hl 8 rfl) ?_
                            refine lv_imul hx hb dX5_settle_188 ?_
                            refine lv_topi (nm_r (e' := nI (10 * (sD σ e))) (pk_mul _ _) ?_)
                            refine lv_iload hx hb dX5_settle_189 (lv_at hl 9 rfl) ?_
                            refine lv_iadd hx hb dX5_settle_191 ?_
                            refine lv_topi (nm_r (e' := nI ((10 * (sD σ e)) + p)) (nI_add _ _) ?_)
                            refine lv_iload hx hb dX5_settle_192 (lv_at hl 1 rfl) ?_
                            refine zwrWv (G := G) (wc := (wM G m τ V σ ns x len B)) (wc' := (wM G m (su τ (64 + 53 * (sS σ e) + ((10 * (sD σ e)) + p)) (lws τ (sS σ e) (mns τ (fS σ e) (fD σ e) p))) V σ ns x len B)) (va_runV (As := [.int (nI (sS σ e)), .int (nI ((10 * (sD σ e)) + p)), .int (nI (lws τ (sS σ e) (mns τ (fS σ e) (fD σ e) p)))]) (rest := []) ⟨hx, hb, hml, hown, hts⟩ (kX5_puts l G m τ V σ ns x len B (sS σ e) ((10 * (sD σ e)) + p) (lws τ (sS σ e) (mns τ (fS σ e) (fD σ e) p)) (by omega) (by omega) (by omega) (zD_any hD)) (cwV 3 hts gX5_settle_X5_puts rfl rfl rfl (by decide +kernel) ⟨Nat.le_of_ble_eq_true rfl, Nat.le_of_ble_eq_true rfl⟩) (zPreV hG (va_recv (q0 := 0) (ci := 5) hG.1 hP rfl rfl) (hP)) rfl rfl hl.1 rfl (lv_room (Nat.le_of_ble_eq_true rfl)) dX5_settle_194 ⟨Nat.le_of_ble_eq_true rfl, Nat.le_of_ble_eq_true rfl⟩) hP hD hS (wM_map ..) (fun H locs hP hD hS => ?_)
                            have hP : va_P G.1 vwCl (wM G m (su τ (64 + 53 * (sS σ e) + ((10 * (sD σ e)) + p)) (lws τ (sS σ e) (mns τ (fS σ e) (fD σ e) p))) V σ ns x len B) H := hP
                            have hD : va_D (zA (wM G m σ V ζ ns x len B)) (wM G m (su τ (64 + 53 * (sS σ e) + ((10 * (sD σ e)) + p)) (lws τ (sS σ e) (mns τ (fS σ e) (fD σ e) p))) V σ ns x len B) := hD
                            refine lv_iinc (v := nI (p + 1)) (lv' := [(7, .int (nI (p + 1))), (6, .int (nI (c + 0))), (9, .int (nI (lws τ (sS σ e) (mns τ (fS σ e) (fD σ e) p)))), (8, .int (nI (sgn τ (sS σ e) (sD σ e) p))), (0, .ref (m 0)), (1, .int (nI e)), (2, .int (nI (fS σ e))), (3, .int (nI 1)), (4, .int (nI (sS σ e))), (5, .int (nI (sD σ e)))]) hx hb dX5_settle_197 hl (k := 9) rfl (zinc1 _) (by decide) rfl (fun ls hl => ?_)
                            refine lv_goto (tgt := 100) hx hb dX5_settle_200 (by decide) ?_
                            exact ih100 (p + 1) (su τ (64 + 53 * (sS σ e) + ((10 * (sD σ e)) + p)) (lws τ (sS σ e) (mns τ (fS σ e) (fD σ e) p))) (c + 0) (by rw [stl, ← hτ]; exact (stS_eq hOτ (k1 := fS σ e) (d1 := fD σ e) (show sS σ e < 36 by omega) (show sD σ e < 4 by omega) (show p < 10 by omega) (nw := lws τ (sS σ e) (mns τ (fS σ e) (fD σ e) p)) (Or.inr (Or.inr ⟨by omega, hvb.2, rfl, h154⟩))).1) (by unfold stc at hxc ⊢; rw [sm, ← hxc, ← hτ, if_pos ((stS_eq hOτ (k1 := fS σ e) (d1 := fD σ e) (show sS σ e < 36 by omega) (show sD σ e < 4 by omega) (show p < 10 by omega) (nw := lws τ (sS σ e) (mns τ (fS σ e) (fD σ e) p)) (Or.inr (Or.inr ⟨by omega, hvb.2, rfl, h154⟩))).2.mp h170)]) (fun j hj => by rcases Nat.lt_succ_iff_lt_or_eq.mp hj with q | q; exact hz j q; (rw [q, ← hτ]; exact decide_eq_false (fun z => h154 z.2.2))) (hOτ.su_sg (by omega) (by omega)) (by omega) (by omega) (by omega) _ (lv_sub hl [4, 5, 6, 7, 8, 9, 1, 0] rfl) _ _ (hP) (hD) hS
                        · skip
                          have h154 : lws τ (sS σ e) (mns τ (fS σ e) (fD σ e) p) = 10 := (zc_m4 (by omega)).mp h154
                          refine lv_aload_n hx hb dX5_settle_157 rfl (lv_at hl 2 rfl) ?_
                          refine zwrWv (G := G) (wc := (wM G m τ V σ ns x len B)) (wc' := (wM G m σ V σ ns x len B)) (va_runV (As := []) (rest := []) ⟨hx, hb, hml, hown, hts⟩ (kX5_restore l G m τ V σ ns x len B (zD_any hD)) (cwV 0 hts gX5_settle_X5_restore rfl rfl rfl (by decide +kernel) ⟨Nat.le_of_ble_eq_true rfl, Nat.le_of_ble_eq_true rfl⟩) (zPreV hG (va_recv (q0 := 0) (ci := 5) hG.1 hP rfl rfl) (hP)) rfl rfl hl.1 rfl (lv_room (Nat.le_of_ble_eq_true rfl)) dX5_settle_158 ⟨Nat.le_of_ble_eq_true rfl, Nat.le_of_ble_eq_true rfl⟩) hP hD hS (wM_map ..) (fun H locs hP hD hS => ?_)
                          have hP : va_P G.1 vwCl (wM G m σ V σ ns x len B) H := hP
                          have hD : va_D (zA (wM G m σ V ζ ns x len B)) (wM G m σ V σ ns x len B) := hD
                          refine lv_bipush (v := (-2)) hx hb dX5_settle_161 (by decide) ?_
                          exact hret _ _ _ _ _ dX5_settle_163 hS (hP) (rfl)
              exact loop100 11 0 σ 0 (rfl) (rfl) (fun j hj => absurd hj (Nat.not_lt_zero j)) (hO) (by omega) (by omega) (by omega) _ (lv_sub hl [5, 6, 7, 4, 3, 2, 1, 0] rfl) _ _ (hP) (hD) hS
            · skip
              have h84 : (fD σ e) = 1 := (nI_eq (by omega) (by omega)).mp h84
              refine lv_iconst (v := nI 3) hx hb dX5_settle_87 (by decide) ?_
              refine lv_goto (tgt := 92) hx hb dX5_settle_88 (by decide) ?_
              refine lv_topi (nm_r (e' := nI (sD σ e)) (congrArg nI (by unfold sD; rw [if_pos (by unfold fD at h84; split at h84 <;> omega)])) ?_)
              refine lv_istore (lv' := [(5, .int (nI (sD σ e))), (4, .int (nI (sS σ e))), (3, .int (nI 1)), (0, .ref (m 0)), (1, .int (nI e)), (2, .int (nI (fS σ e)))]) hx hb dX5_settle_92 hl (by decide) rfl (fun ls hl => ?_)
              refine lv_iconst (v := nI 0) hx hb dX5_settle_94 (by decide) ?_
              refine lv_istore (lv' := [(6, .int (nI 0)), (5, .int (nI (sD σ e))), (4, .int (nI (sS σ e))), (3, .int (nI 1)), (0, .ref (m 0)), (1, .int (nI e)), (2, .int (nI (fS σ e)))]) hx hb dX5_settle_95 hl (by decide) rfl (fun ls hl => ?_)
              refine lv_iconst (v := nI 0) hx hb dX5_settle_97 (by decide) ?_
              refine lv_istore (lv' := [(7, .int (nI 0)), (6, .int (nI 0)), (5, .int (nI (sD σ e))), (4, .int (nI (sS σ e))), (3, .int (nI 1)), (0, .ref (m 0)), (1, .int (nI e)), (2, .int (nI (fS σ e)))]) hx hb dX5_settle_98 hl (by decide) rfl (fun ls hl => ?_)
              have loop100 : ∀ (n : Nat) (p : Nat) (τ : Nat → Nat) (c : Nat) (hτ : τ = stl σ (fS σ e) (fD σ e) (sS σ e) (sD σ e) p) (hxc : c = stc σ (fS σ e) (fD σ e) (sS σ e) (sD σ e) p) (hz : ∀ j, j < p → sBad (stl σ (fS σ e) (fD σ e) (sS σ e) (sD σ e) j) (fS σ e) (fD σ e) (sS σ e) (sD σ e) j = false) (hOτ : Ok N τ) (hp : p ≤ 10) (hcp : c ≤ p) (hn : 10 < p + n) (ls : Array Slot) (hl : lv_has ls 10 [(0, .ref (m 0)), (1, .int (nI e)), (2, .int (nI (fS σ e))), (3, .int (nI 1)), (4, .int (nI (sS σ e))), (5, .int (nI (sD σ e))), (6, .int (nI c)), (7, .int (nI p))]) (H : Heap) (locs : List Loc) (hP : va_P G.1 vwCl (wM G m τ V σ ns x len B) H) (hD : va_D (zA (wM G m σ V ζ ns x len B)) (wM G m τ V σ ns x len B)) (hS : va_S (zA (wM G m σ V ζ ns x len B)) st.heap H locs), W pr l en (zRm 4 91) st mi ar bl me cd H locs 0 0 Q (F0 mi 100 ls []) := by
                intro n
                induction n with
                | zero => intro p τ c hτ hxc hz hOτ hp hcp hn ls hl H locs hP hD hS; exfalso; omega
                | succ n ih100 =>
                  intro p τ c hτ hxc hz hOτ hp hcp hn ls hl H locs hP hD hS
                  refine lv_iload hx hb dX5_settle_100 (lv_at hl 7 rfl) ?_
                  refine lv_bipush (v := nI 10) hx hb dX5_settle_102 (by decide) ?_
                  refine lv_icmp_ge (tgt := 203) hx hb dX5_settle_104 (by decide) (fun h104 => ?_) (fun h104 => ?_)
                  · skip
                    have h104 : 10 ≤ p := (nI_leI (by omega) (by omega)).mp h104
                    exfalso; have hB : sbd σ (fS σ e) (fD σ e) (sS σ e) (sD σ e) = 10 := fst1_no (fun j hj => hz j (by omega)); omega
                  · skip
                    have h104 : ¬ (10 ≤ p) := fun q => h104 ((nI_leI (by omega) (by omega)).mpr q)
                    have t0 : τ 0 = σ 0 := by rw [hτ]; exact stl_lo (by omega) p
                    have t1 : τ 1 = σ 1 := by rw [hτ]; exact stl_lo (by omega) p
                    have tE := nE_lo t0 t1
                    have tf := fS_lo t0 t1 e
                    have ts := sS_lo t0 t1 e
                    have tfd := fD_lo t0 t1 e
                    have tsd := sD_lo t0 t1 e
                    refine lv_aload_n hx hb dX5_settle_107 rfl (lv_at hl 0 rfl) ?_
                    refine lv_iload hx hb dX5_settle_108 (lv_at hl 4 rfl) ?_
                    refine lv_iload hx hb dX5_settle_110 (lv_at hl 5 rfl) ?_
                    refine lv_iload hx hb dX5_settle_112 (lv_at hl 7 rfl) ?_
                    refine zrdV (As := [.int (nI (sS σ e)), .int (nI (sD σ e)), .int (nI p)]) ⟨hx, hb, hml, hown, hts⟩ (kX5_signAt l G m τ V σ ns x len B (sS σ e) (sD σ e) p (by omega) (by omega) (by omega)) (cwV 3 hts gX5_settle_X5_signAt rfl rfl rfl (by decide +kernel) ⟨Nat.le_of_ble_eq_true rfl, Nat.le_of_ble_eq_true rfl⟩) hG (va_recv (q0 := 0) (ci := 5) hG.1 hP rfl rfl) (hP) rfl rfl hl.1 dX5_settle_114 (Nat.le_of_ble_eq_true rfl) ⟨Nat.le_of_ble_eq_true rfl, Nat.le_of_ble_eq_true rfl⟩ ?_
                    refine lv_istore (lv' := [(8, .int (nI (sgn τ (sS σ e) (sD σ e) p))), (0, .ref (m 0)), (1, .int (nI e)), (2, .int (nI (fS σ e))), (3, .int (nI 1)), (4, .int (nI (sS σ e))), (5, .int (nI (sD σ e))), (6, .int (nI c)), (7, .int (nI p))]) hx hb dX5_settle_117 hl (by decide) rfl (fun ls hl => ?_)
                    refine lv_aload_n hx hb dX5_settle_119 rfl (lv_at hl 1 rfl) ?_
                    refine lv_iload hx hb dX5_settle_120 (lv_at hl 5 rfl) ?_
                    refine lv_iload hx hb dX5_settle_122 (lv_at hl 0 rfl) ?_
                    refine lv_iload_n hx hb dX5_settle_124 rfl (lv_at hl 4 rfl) ?_
                    refine lv_if_eq (tgt := 138) hx hb dX5_settle_125 (by decide) (fun h125 => ?_) (fun h125 => ?_)
                    · skip
                      have h125 : 1 = 0 := (z_eq0 (by omega)).mp h125
                      exfalso; omega
                    · skip
                      have h125 : ¬ (1 = 0) := fun q => h125 ((z_eq0 (by omega)).mpr q)
                      have h125 : 0 < 1 := Nat.pos_of_ne_zero h125
                      refine lv_aload_n hx hb dX5_settle_128 rfl (lv_at hl 1 rfl) ?_
                      refine lv_iload_n hx hb dX5_settle_129 rfl (lv_at hl 2 rfl) ?_
                      refine lv_iload hx hb dX5_settle_130 (lv_at hl 8 rfl) ?_
                      refine zrdV (As := [.int (nI e), .int (nI p)]) ⟨hx, hb, hml, hown, hts⟩ (kX5_firstMeans l G m τ V σ ns x len B e p (hOτ) (by omega) (by omega)) (cwV 2 hts gX5_settle_X5_firstMeans rfl rfl rfl (by decide +kernel) ⟨Nat.le_of_ble_eq_true rfl, Nat.le_of_ble_eq_true rfl⟩) hG (va_recv (q0 := 0) (ci := 5) hG.1 hP rfl rfl) (hP) rfl rfl hl.1 dX5_settle_132 (Nat.le_of_ble_eq_true rfl) ⟨Nat.le_of_ble_eq_true rfl, Nat.le_of_ble_eq_true rfl⟩ ?_
                      have hf132_0 := hOτ.mn (show fS τ (e) < 36 by have := hOτ.lF (show e < nE τ by omega); omega) (fD_lt τ (e)) (show p < 10 by omega)
                      refine lv_topi (nm_r (e' := nI (mns τ (fS σ e) (fD σ e) p)) (by rw [tf, tfd]) ?_)
                      refine lv_goto (tgt := 145) hx hb dX5_settle_135 (by decide) ?_
                      have hv10 := hOτ.mn (show fS σ e < 36 by omega) (show fD σ e < 4 by omega) (show p < 10 by omega)
                      have hs10 := hOτ.sg (show sS σ e < 36 by omega) (show sD σ e < 4 by omega) (show p < 10 by omega)
                      rcases (show mns τ (fS σ e) (fD σ e) p = 10 ∨ (mns τ (fS σ e) (fD σ e) p < 10 ∧ (sgn τ (sS σ e) (sD σ e) p < 10 ∧ mng τ (sS σ e) (sgn τ (sS σ e) (sD σ e) p) = mns τ (fS σ e) (fD σ e) p)) ∨ (mns τ (fS σ e) (fD σ e) p < 10 ∧ ¬ (sgn τ (sS σ e) (sD σ e) p < 10 ∧ mng τ (sS σ e) (sgn τ (sS σ e) (sD σ e) p) = mns τ (fS σ e) (fD σ e) p)) by by_cases z : mns τ (fS σ e) (fD σ e) p = 10; exact Or.inl z; right; by_cases y : sgn τ (sS σ e) (sD σ e) p < 10 ∧ mng τ (sS σ e) (sgn τ (sS σ e) (sD σ e) p) = mns τ (fS σ e) (fD σ e) p; exact Or.inl ⟨by omega, y⟩; exact Or.inr ⟨by omega, y⟩) with hva | hvb | hvb
                      · skip
                        rw [show nI (mns τ (fS σ e) (fD σ e) p) = nI 10 by rw [hva]]
                        refine zrdV (As := [.int (nI (sS σ e)), .int (nI (sgn τ (sS σ e) (sD σ e) p)), .int (nI 10)]) ⟨hx, hb, hml, hown, hts⟩ (kX5_signFor_10 l G m τ V σ ns x len B (sS σ e) (sgn τ (sS σ e) (sD σ e) p)) (cwV 3 hts gX5_settle_X5_signFor rfl rfl rfl (by decide +kernel) ⟨Nat.le_of_ble_eq_true rfl, Nat.le_of_ble_eq_true rfl⟩) hG (va_recv (q0 := 0) (ci := 5) hG.1 hP rfl rfl) (hP) rfl rfl hl.1 dX5_settle_145 (Nat.le_of_ble_eq_true rfl) ⟨Nat.le_of_ble_eq_true rfl, Nat.le_of_ble_eq_true rfl⟩ ?_
                        refine lv_istore (lv' := [(9, .int (nI 10)), (8, .int (nI (sgn τ (sS σ e) (sD σ e) p))), (0, .ref (m 0)), (1, .int (nI e)), (2, .int (nI (fS σ e))), (3, .int (nI 1)), (4, .int (nI (sS σ e))), (5, .int (nI (sD σ e))), (6, .int (nI c)), (7, .int (nI p))]) hx hb dX5_settle_148 hl (by decide) rfl (fun ls hl => ?_)
                        refine lv_iload hx hb dX5_settle_150 (lv_at hl 0 rfl) ?_
                        refine lv_bipush (v := (-4)) hx hb dX5_settle_152 (by decide) ?_
                        refine lv_icmp_ne (tgt := 164) hx hb dX5_settle_154 (by decide) (fun h154 => ?_) (fun h154 => ?_)
                        · skip
                          have h154 : ¬ (False) := fun q => h154 ((iff_of_false (z_m4 (by omega)) id).mpr q)
                          refine lv_iload hx hb dX5_settle_164 (lv_at hl 8 rfl) ?_
                          refine lv_iload hx hb dX5_settle_166 (lv_at hl 0 rfl) ?_
                          refine lv_iload hx hb dX5_settle_168 (lv_at hl 1 rfl) ?_
                          refine lv_icmp_ne (tgt := 177) hx hb dX5_settle_170 (by decide) (fun h170 => ?_) (fun h170 => ?_)
                          · skip
                            have h170 : ¬ (10 = (sgn τ (sS σ e) (sD σ e) p)) := fun q => h170 ((nI_eq (by omega) (by omega)).mpr q)
                            refine lv_iconst (v := nI 1) hx hb dX5_settle_177 (by decide) ?_
                            refine lv_iadd hx hb dX5_settle_178 ?_
                            refine lv_topi (nm_r (e' := nI (c + 1)) (nI_add _ _) ?_)
                            refine lv_istore (lv' := [(6, .int (nI (c + 1))), (9, .int (nI 10)), (8, .int (nI (sgn τ (sS σ e) (sD σ e) p))), (0, .ref (m 0)), (1, .int (nI e)), (2, .int (nI (fS σ e))), (3, .int (nI 1)), (4, .int (nI (sS σ e))), (5, .int (nI (sD σ e))), (7, .int (nI p))]) hx hb dX5_settle_179 hl (by decide) rfl (fun ls hl => ?_)
                            refine lv_aload_n hx hb dX5_settle_181 rfl (lv_at hl 3 rfl) ?_
                            refine lv_iload hx hb dX5_settle_182 (lv_at hl 7 rfl) ?_
                            refine lv_bipush (v := nI 10) hx hb dX5_settle_184 (by decide) ?_
                            refine lv_iload hx hb dX5_settle_186 (lv_at hl 8 rfl) ?_
                            refine lv_imul hx hb dX5_settle_188 ?_
                            refine lv_topi (nm_r (e' := nI (10 * (sD σ e))) (pk_mul _ _) ?_)
                            refine lv_iload hx hb dX5_settle_189 (lv_at hl 9 rfl) ?_
                            refine lv_iadd hx hb dX5_settle_191 ?_
                            refine lv_topi (nm_r (e' := nI ((10 * (sD σ e)) + p)) (nI_add _ _) ?_)
                            refine lv_iload hx hb dX5_settle_192 (lv_at hl 1 rfl) ?_
                            refine zwrWv (G := G) (wc := (wM G m τ V σ ns x len B)) (wc' := (wM G m (su τ (64 + 53 * (sS σ e) + ((10 * (sD σ e)) + p)) 10) V σ ns x len B)) (va_runV (As := [.int (nI (sS σ e)), .int (nI ((10 * (sD σ e)) + p)), .int (nI 10)]) (rest := []) ⟨hx, hb, hml, hown, hts⟩ (kX5_puts l G m τ V σ ns x len B (sS σ e) ((10 * (sD σ e)) + p) 10 (by omega) (by omega) (by omega) (zD_any hD)) (cwV 3 hts gX5_settle_X5_puts rfl rfl rfl (by decide +kernel) ⟨Nat.le_of_ble_eq_true rfl, Nat.le_of_ble_eq_true rfl⟩) (zPreV hG (va_recv (q0 := 0) (ci := 5) hG.1 hP rfl rfl) (hP)) rfl rfl hl.1 rfl (lv_room (Nat.le_of_ble_eq_true rfl)) dX5_settle_194 ⟨Nat.le_of_ble_eq_true rfl, Nat.le_of_ble_eq_true rfl⟩) hP hD hS (wM_map ..) (fun H locs hP hD hS => ?_)
                            have hP : va_P G.1 vwCl (wM G m (su τ (64 + 53 * (sS σ e) + ((10 * (sD σ e)) + p)) 10) V σ ns x len B) H := hP
                            have hD : va_D (zA (wM G m σ V ζ ns x len B)) (wM G m (su τ (64 + 53 * (sS σ e) + ((10 * (sD σ e)) + p)) 10) V σ ns x len B) := hD
                            refine lv_iinc (v := nI (p + 1)) (lv' := [(7, .int (nI (p + 1))), (6, .int (nI (c + 1))), (9, .int (nI 10)), (8, .int (nI (sgn τ (sS σ e) (sD σ e) p))), (0, .ref (m 0)), (1, .int (nI e)), (2, .int (nI (fS σ e))), (3, .int (nI 1)), (4, .int (nI (sS σ e))), (5, .int (nI (sD σ e)))]) hx hb dX5_settle_197 hl (k := 9) rfl (zinc1 _) (by decide) rfl (fun ls hl => ?_)
                            refine lv_goto (tgt := 100) hx hb dX5_settle_200 (by decide) ?_
                            exact ih100 (p + 1) (su τ (64 + 53 * (sS σ e) + ((10 * (sD σ e)) + p)) 10) (c + 1) (by rw [stl, ← hτ]; exact (stS_eq hOτ (k1 := fS σ e) (d1 := fD σ e) (show sS σ e < 36 by omega) (show sD σ e < 4 by omega) (show p < 10 by omega) (nw := 10) (Or.inl ⟨hva, rfl⟩)).1) (by unfold stc at hxc ⊢; rw [sm, ← hxc, ← hτ, if_neg (fun z => h170 ((stS_eq hOτ (k1 := fS σ e) (d1 := fD σ e) (show sS σ e < 36 by omega) (show sD σ e < 4 by omega) (show p < 10 by omega) (nw := 10) (Or.inl ⟨hva, rfl⟩)).2.mpr z))]) (fun j hj => by rcases Nat.lt_succ_iff_lt_or_eq.mp hj with q | q; exact hz j q; (rw [q, ← hτ]; exact decide_eq_false (fun z => z.2.1 hva))) (hOτ.su_sg (by omega) (by omega)) (by omega) (by omega) (by omega) _ (lv_sub hl [4, 5, 6, 7, 8, 9, 1, 0] rfl) _ _ (hP) (hD) hS
                          · skip
                            have h170 : 10 = (sgn τ (sS σ e) (sD σ e) p) := (nI_eq (by omega) (by omega)).mp h170
                            refine lv_iconst (v := nI 0) hx hb dX5_settle_173 (by decide) ?_
                            refine lv_goto (tgt := 178) hx hb dX5_settle_174 (by decide) ?_
                            refine lv_iadd hx hb dX5_settle_178 ?_
                            refine lv_topi (nm_r (e' := nI (c + 0)) (nI_add _ _) ?_)
                            refine lv_istore (lv' := [(6, .int (nI (c + 0))), (9, .int (nI 10)), (8, .int (nI (sgn τ (sS σ e) (sD σ e) p))), (0, .ref (m 0)), (1, .int (nI e)), (2, .int (nI (fS σ e))), (3, .int (nI 1)), (4, .int (nI (sS σ e))), (5, .int (nI (sD σ e))), (7, .int (nI p))]) hx hb dX5_settle_179 hl (by decide) rfl (fun ls hl => ?_)
                            refine lv_aload_n hx hb dX5_settle_181 rfl (lv_at hl 3 rfl) ?_
                            refine lv_iload hx hb dX5_settle_182 (lv_at hl 7 rfl) ?_
                            refine lv_bipush (v := nI 10) hx hb dX5_settle_184 (by decide) ?_
                            refine lv_iload hx hb dX5_settle_186 (lv_at hl 8 rfl) ?_
                            refine lv_imul hx hb dX5_settle_188 ?_
                            refine lv_topi (nm_r (e' := nI (10 * (sD σ e))) (pk_mul _ _) ?_)
                            refine lv_iload hx hb dX5_settle_189 (lv_at hl 9 rfl) ?_
                            refine lv_iadd hx hb dX5_settle_191 ?_
                            refine lv_topi (nm_r (e' := nI ((10 * (sD σ e)) + p)) (nI_add _ _) ?_)
                            refine lv_iload hx hb dX5_settle_192 (lv_at hl 1 rfl) ?_
                            refine zwrWv (G := G) (wc := (wM G m τ V σ ns x len B)) (wc' := (wM G m (su τ (64 + 53 * (sS σ e) + ((10 * (sD σ e)) + p)) 10) V σ ns x len B)) (va_runV (As := [.int (nI (sS σ e)), .int (nI ((10 * (sD σ e)) + p)), .int (nI 10)]) (rest := []) ⟨hx, hb, hml, hown, hts⟩ (kX5_puts l G m τ V σ ns x len B (sS σ e) ((10 * (sD σ e)) + p) 10 (by omega) (by omega) (by omega) (zD_any hD)) (cwV 3 hts gX5_settle_X5_puts rfl rfl rfl (by decide +kernel) ⟨Nat.le_of_ble_eq_true rfl, Nat.le_of_ble_eq_true rfl⟩) (zPreV hG (va_recv (q0 := 0) (ci := 5) hG.1 hP rfl rfl) (hP)) rfl rfl hl.1 rfl (lv_room (Nat.le_of_ble_eq_true rfl)) dX5_settle_194 ⟨Nat.le_of_ble_eq_true rfl, Nat.le_of_ble_eq_true rfl⟩) hP hD hS (wM_map ..) (fun H locs hP hD hS => ?_)
                            have hP : va_P G.1 vwCl (wM G m (su τ (64 + 53 * (sS σ e) + ((10 * (sD σ e)) + p)) 10) V σ ns x len B) H := hP
                            have hD : va_D (zA (wM G m σ V ζ ns x len B)) (wM G m (su τ (64 + 53 * (sS σ e) + ((10 * (sD σ e)) + p)) 10) V σ ns x len B) := hD
                            refine lv_iinc (v := nI (p + 1)) (lv' := [(7, .int (nI (p + 1))), (6, .int (nI (c + 0))), (9, .int (nI 10)), (8, .int (nI (sgn τ (sS σ e) (sD σ e) p))), (0, .ref (m 0)), (1, .int (nI e)), (2, .int (nI (fS σ e))), (3, .int (nI 1)), (4, .int (nI (sS σ e))), (5, .int (nI (sD σ e)))]) hx hb dX5_settle_197 hl (k := 9) rfl (zinc1 _) (by decide) rfl (fun ls hl => ?_)
                            refine lv_goto (tgt := 100) hx hb dX5_settle_200 (by decide) ?_
                            exact ih100 (p + 1) (su τ (64 + 53 * (sS σ e) + ((10 * (sD σ e)) + p)) 10) (c + 0) (by rw [stl, ← hτ]; exact (stS_eq hOτ (k1 := fS σ e) (d1 := fD σ e) (show sS σ e < 36 by omega) (show sD σ e < 4 by omega) (show p < 10 by omega) (nw := 10) (Or.inl ⟨hva, rfl⟩)).1) (by unfold stc at hxc ⊢; rw [sm, ← hxc, ← hτ, if_pos ((stS_eq hOτ (k1 := fS σ e) (d1 := fD σ e) (show sS σ e < 36 by omega) (show sD σ e < 4 by omega) (show p < 10 by omega) (nw := 10) (Or.inl ⟨hva, rfl⟩)).2.mp h170)]) (fun j hj => by rcases Nat.lt_succ_iff_lt_or_eq.mp hj with q | q; exact hz j q; (rw [q, ← hτ]; exact decide_eq_false (fun z => z.2.1 hva))) (hOτ.su_sg (by omega) (by omega)) (by omega) (by omega) (by omega) _ (lv_sub hl [4, 5, 6, 7, 8, 9, 1, 0] rfl) _ _ (hP) (hD) hS
                        · skip
                          have h154 : False := (iff_of_false (z_m4 (by omega)) id).mp h154
                          exact absurd h154 id
                      · skip
                        refine zrdV (As := [.int (nI (sS σ e)), .int (nI (sgn τ (sS σ e) (sD σ e) p)), .int (nI (mns τ (fS σ e) (fD σ e) p))]) ⟨hx, hb, hml, hown, hts⟩ (kX5_signFor_s l G m τ V σ ns x len B (sS σ e) (sgn τ (sS σ e) (sD σ e) p) (mns τ (fS σ e) (fD σ e) p) (hOτ) (by omega) (hvb.2.1) (hvb.1) (hvb.2.2)) (cwV 3 hts gX5_settle_X5_signFor rfl rfl rfl (by decide +kernel) ⟨Nat.le_of_ble_eq_true rfl, Nat.le_of_ble_eq_true rfl⟩) hG (va_recv (q0 := 0) (ci := 5) hG.1 hP rfl rfl) (hP) rfl rfl hl.1 dX5_settle_145 (Nat.le_of_ble_eq_true rfl) ⟨Nat.le_of_ble_eq_true rfl, Nat.le_of_ble_eq_true rfl⟩ ?_
                        refine lv_istore (lv' := [(9, .int (nI (sgn τ (sS σ e) (sD σ e) p))), (8, .int (nI (sgn τ (sS σ e) (sD σ e) p))), (0, .ref (m 0)), (1, .int (nI e)), (2, .int (nI (fS σ e))), (3, .int (nI 1)), (4, .int (nI (sS σ e))), (5, .int (nI (sD σ e))), (6, .int (nI c)), (7, .int (nI p))]) hx hb dX5_settle_148 hl (by decide) rfl (fun ls hl => ?_)
                        refine lv_iload hx hb dX5_settle_150 (lv_at hl 0 rfl) ?_
                        refine lv_bipush (v := (-4)) hx hb dX5_settle_152 (by decide) ?_
                        refine lv_icmp_ne (tgt := 164) hx hb dX5_settle_154 (by decide) (fun h154 => ?_) (fun h154 => ?_)
                        · skip
                          have h154 : ¬ (False) := fun q => h154 ((iff_of_false (z_m4 (by omega)) id).mpr q)
                          refine lv_iload hx hb dX5_settle_164 (lv_at hl 8 rfl) ?_
                          refine lv_iload hx hb dX5_settle_166 (lv_at hl 0 rfl) ?_
                          refine lv_iload hx hb dX5_settle_168 (lv_at hl 1 rfl) ?_
                          refine lv_icmp_ne (tgt := 177) hx hb dX5_settle_170 (by decide) (fun h170 => ?_) (fun h170 => ?_)
                          · skip
                            have h170 : ¬ ((sgn τ (sS σ e) (sD σ e) p) = (sgn τ (sS σ e) (sD σ e) p)) := fun q => h170 ((nI_eq (by omega) (by omega)).mpr q)
                            refine lv_iconst (v := nI 1) hx hb dX5_settle_177 (by decide) ?_
                            refine lv_iadd hx hb dX5_settle_178 ?_
                            refine lv_topi (nm_r (e' := nI (c + 1)) (nI_add _ _) ?_)
                            refine lv_istore (lv' := [(6, .int (nI (c + 1))), (9, .int (nI (sgn τ (sS σ e) (sD σ e) p))), (8, .int (nI (sgn τ (sS σ e) (sD σ e) p))), (0, .ref (m 0)), (1, .int (nI e)), (2, .int (nI (fS σ e))), (3, .int (nI 1)), (4, .int (nI (sS σ e))), (5, .int (nI (sD σ e))), (7, .int (nI p))]) hx hb dX5_settle_179 hl (by decide) rfl (fun ls hl => ?_)
                            refine lv_aload_n hx hb dX5_settle_181 rfl (lv_at hl 3 rfl) ?_
                            refine lv_iload hx hb dX5_settle_182 (lv_at hl 7 rfl) ?_
                            refine lv_bipush (v := nI 10) hx hb dX5_settle_184 (by decide) ?_
                            refine lv_iload hx hb dX5_settle_186 (lv_at hl 8 rfl) ?_
                            refine lv_imul hx hb dX5_settle_188 ?_
                            refine lv_topi (nm_r (e' := nI (10 * (sD σ e))) (pk_mul _ _) ?_)
                            refine lv_iload hx hb dX5_settle_189 (lv_at hl 9 rfl) ?_
                            refine lv_iadd hx hb dX5_settle_191 ?_
                            refine lv_topi (nm_r (e' := nI ((10 * (sD σ e)) + p)) (nI_add _ _) ?_)
                            refine lv_iload hx hb dX5_settle_192 (lv_at hl 1 rfl) ?_
                            refine zwrWv (G := G) (wc := (wM G m τ V σ ns x len B)) (wc' := (wM G m (su τ (64 + 53 * (sS σ e) + ((10 * (sD σ e)) + p)) (sgn τ (sS σ e) (sD σ e) p)) V σ ns x len B)) (va_runV (As := [.int (nI (sS σ e)), .int (nI ((10 * (sD σ e)) + p)), .int (nI (sgn τ (sS σ e) (sD σ e) p))]) (rest := []) ⟨hx, hb, hml, hown, hts⟩ (kX5_puts l G m τ V σ ns x len B (sS σ e) ((10 * (sD σ e)) + p) (sgn τ (sS σ e) (sD σ e) p) (by omega) (by omega) (by omega) (zD_any hD)) (cwV 3 hts gX5_settle_X5_puts rfl rfl rfl (by decide +kernel) ⟨Nat.le_of_ble_eq_true rfl, Nat.le_of_ble_eq_true rfl⟩) (zPreV hG (va_recv (q0 := 0) (ci := 5) hG.1 hP rfl rfl) (hP)) rfl rfl hl.1 rfl (lv_room (Nat.le_of_ble_eq_true rfl)) dX5_settle_194 ⟨Nat.le_of_ble_eq_true rfl, Nat.le_of_ble_eq_true rfl⟩) hP hD hS (wM_map ..) (fun H locs hP hD hS => ?_)
                            have hP : va_P G.1 vwCl (wM G m (su τ (64 + 53 * (sS σ e) + ((10 * (sD σ e)) + p)) (sgn τ (sS σ e) (sD σ e) p)) V σ ns x len B) H := hP
                            have hD : va_D (zA (wM G m σ V ζ ns x len B)) (wM G m (su τ (64 + 53 * (sS σ e) + ((10 * (sD σ e)) + p)) (sgn τ (sS σ e) (sD σ e) p)) V σ ns x len B) := hD
                            refine lv_iinc (v := nI (p + 1)) (lv' := [(7, .int (nI (p + 1))), (6, .int (nI (c + 1))), (9, .int (nI (sgn τ (sS σ e) (sD σ e) p))), (8, .int (nI (sgn τ (sS σ e) (sD σ e) p))), (0, .ref (m 0)), (1, .int (nI e)), (2, .int (nI (fS σ e))), (3, .int (nI 1)), (4, .int (nI (sS σ e))), (5, .int (nI (sD σ e)))]) hx hb dX5_settle_197 hl (k := 9) rfl (zinc1 _) (by decide) rfl (fun ls hl => ?_)
                            refine lv_goto (tgt := 100) hx hb dX5_settle_200 (by decide) ?_
                            exact ih100 (p + 1) (su τ (64 + 53 * (sS σ e) + ((10 * (sD σ e)) + p)) (sgn τ (sS σ e) (sD σ e) p)) (c + 1) (by rw [stl, ← hτ]; exact (stS_eq hOτ (k1 := fS σ e) (d1 := fD σ e) (show sS σ e < 36 by omega) (show sD σ e < 4 by omega) (show p < 10 by omega) (nw := (sgn τ (sS σ e) (sD σ e) p)) (Or.inr (Or.inl ⟨by omega, hvb.2.1, hvb.2.2, rfl⟩))).1) (by unfold stc at hxc ⊢; rw [sm, ← hxc, ← hτ, if_neg (fun z => h170 ((stS_eq hOτ (k1 := fS σ e) (d1 := fD σ e) (show sS σ e < 36 by omega) (show sD σ e < 4 by omega) (show p < 10 by omega) (nw := (sgn τ (sS σ e) (sD σ e) p)) (Or.inr (Or.inl ⟨by omega, hvb.2.1, hvb.2.2, rfl⟩))).2.mpr z))]) (fun j hj => by rcases Nat.lt_succ_iff_lt_or_eq.mp hj with q | q; exact hz j q; (rw [q, ← hτ]; exact decide_eq_false (fun z => z.1 ((stS_eq hOτ (k1 := fS σ e) (d1 := fD σ e) (show sS σ e < 36 by omega) (show sD σ e < 4 by omega) (show p < 10 by omega) (nw := (sgn τ (sS σ e) (sD σ e) p)) (Or.inr (Or.inl ⟨by omega, hvb.2.1, hvb.2.2, rfl⟩))).2.mp rfl)))) (hOτ.su_sg (by omega) (by omega)) (by omega) (by omega) (by omega) _ (lv_sub hl [4, 5, 6, 7, 8, 9, 1, 0] rfl) _ _ (hP) (hD) hS
                          · skip
                            have h170 : (sgn τ (sS σ e) (sD σ e) p) = (sgn τ (sS σ e) (sD σ e) p) := (nI_eq (by omega) (by omega)).mp h170
                            refine lv_iconst (v := nI 0) hx hb dX5_settle_173 (by decide) ?_
                            refine lv_goto (tgt := 178) hx hb dX5_settle_174 (by decide) ?_
                            refine lv_iadd hx hb dX5_settle_178 ?_
                            refine lv_topi (nm_r (e' := nI (c + 0)) (nI_add _ _) ?_)
                            refine lv_istore (lv' := [(6, .int (nI (c + 0))), (9, .int (nI (sgn τ (sS σ e) (sD σ e) p))), (8, .int (nI (sgn τ (sS σ e) (sD σ e) p))), (0, .ref (m 0)), (1, .int (nI e)), (2, .int (nI (fS σ e))), (3, .int (nI 1)), (4, .int (nI (sS σ e))), (5, .int (nI (sD σ e))), (7, .int (nI p))]) hx hb dX5_settle_179 hl (by decide) rfl (fun ls hl => ?_)
                            refine lv_aload_n hx hb dX5_settle_181 rfl (lv_at hl 3 rfl) ?_
                            refine lv_iload hx hb dX5_settle_182 (lv_at hl 7 rfl) ?_
                            refine lv_bipush (v := nI 10) hx hb dX5_settle_184 (by decide) ?_
                            refine lv_iload hx hb dX5_settle_186 (lv_at hl 8 rfl) ?_
                            refine lv_imul hx hb dX5_settle_188 ?_
                            refine lv_topi (nm_r (e' := nI (10 * (sD σ e))) (pk_mul _ _) ?_)
                            refine lv_iload hx hb dX5_settle_189 (lv_at hl 9 rfl) ?_
                            refine lv_iadd hx hb dX5_settle_191 ?_
                            refine lv_topi (nm_r (e' := nI ((10 * (sD σ e)) + p)) (nI_add _ _) ?_)
                            refine lv_iload hx hb dX5_settle_192 (lv_at hl 1 rfl) ?_
                            refine zwrWv (G := G) (wc := (wM G m τ V σ ns x len B)) (wc' := (wM G m (su τ (64 + 53 * (sS σ e) + ((10 * (sD σ e)) + p)) (sgn τ (sS σ e) (sD σ e) p)) V σ ns x len B)) (va_runV (As := [.int (nI (sS σ e)), .int (nI ((10 * (sD σ e)) + p)), .int (nI (sgn τ (sS σ e) (sD σ e) p))]) (rest := []) ⟨hx, hb, hml, hown, hts⟩ (kX5_puts l G m τ V σ ns x len B (sS σ e) ((10 * (sD σ e)) + p) (sgn τ (sS σ e) (sD σ e) p) (by omega) (by omega) (by omega) (zD_any hD)) (cwV 3 hts gX5_settle_X5_puts rfl rfl rfl (by decide +kernel) ⟨Nat.le_of_ble_eq_true rfl, Nat.le_of_ble_eq_true rfl⟩) (zPreV hG (va_recv (q0 := 0) (ci := 5) hG.1 hP rfl rfl) (hP)) rfl rfl hl.1 rfl (lv_room (Nat.le_of_ble_eq_true rfl)) dX5_settle_194 ⟨Nat.le_of_ble_eq_true rfl, Nat.le_of_ble_eq_true rfl⟩) hP hD hS (wM_map ..) (fun H locs hP hD hS => ?_)
                            have hP : va_P G.1 vwCl (wM G m (su τ (64 + 53 * (sS σ e) + ((10 * (sD σ e)) + p)) (sgn τ (sS σ e) (sD σ e) p)) V σ ns x len B) H := hP
                            have hD : va_D (zA (wM G m σ V ζ ns x len B)) (wM G m (su τ (64 + 53 * (sS σ e) + ((10 * (sD σ e)) + p)) (sgn τ (sS σ e) (sD σ e) p)) V σ ns x len B) := hD
                            refine lv_iinc (v := nI (p + 1)) (lv' := [(7, .int (nI (p + 1))), (6, .int (nI (c + 0))), (9, .int (nI (sgn τ (sS σ e) (sD σ e) p))), (8, .int (nI (sgn τ (sS σ e) (sD σ e) p))), (0, .ref (m 0)), (1, .int (nI e)), (2, .int (nI (fS σ e))), (3, .int (nI 1)), (4, .int (nI (sS σ e))), (5, .int (nI (sD σ e)))]) hx hb dX5_settle_197 hl (k := 9) rfl (zinc1 _) (by decide) rfl (fun ls hl => ?_)
                            refine lv_goto (tgt := 100) hx hb dX5_settle_200 (by decide) ?_
                            exact ih100 (p + 1) (su τ (64 + 53 * (sS σ e) + ((10 * (sD σ e)) + p)) (sgn τ (sS σ e) (sD σ e) p)) (c + 0) (by rw [stl, ← hτ]; exact (stS_eq hOτ (k1 := fS σ e) (d1 := fD σ e) (show sS σ e < 36 by omega) (show sD σ e < 4 by omega) (show p < 10 by omega) (nw := (sgn τ (sS σ e) (sD σ e) p)) (Or.inr (Or.inl ⟨by omega, hvb.2.1, hvb.2.2, rfl⟩))).1) (by unfold stc at hxc ⊢; rw [sm, ← hxc, ← hτ, if_pos ((stS_eq hOτ (k1 := fS σ e) (d1 := fD σ e) (show sS σ e < 36 by omega) (show sD σ e < 4 by omega) (show p < 10 by omega) (nw := (sgn τ (sS σ e) (sD σ e) p)) (Or.inr (Or.inl ⟨by omega, hvb.2.1, hvb.2.2, rfl⟩))).2.mp h170)]) (fun j hj => by rcases Nat.lt_succ_iff_lt_or_eq.mp hj with q | q; exact hz j q; (rw [q, ← hτ]; exact decide_eq_false (fun z => z.1 ((stS_eq hOτ (k1 := fS σ e) (d1 := fD σ e) (show sS σ e < 36 by omega) (show sD σ e < 4 by omega) (show p < 10 by omega) (nw := (sgn τ (sS σ e) (sD σ e) p)) (Or.inr (Or.inl ⟨by omega, hvb.2.1, hvb.2.2, rfl⟩))).2.mp rfl)))) (hOτ.su_sg (by omega) (by omega)) (by omega) (by omega) (by omega) _ (lv_sub hl [4, 5, 6, 7, 8, 9, 1, 0] rfl) _ _ (hP) (hD) hS
                        · skip
                          have h154 : False := (iff_of_false (z_m4 (by omega)) id).mp h154
                          exact absurd h154 id
                      · skip
                        refine zrdV (As := [.int (nI (sS σ e)), .int (nI (sgn τ (sS σ e) (sD σ e) p)), .int (nI (mns τ (fS σ e) (fD σ e) p))]) ⟨hx, hb, hml, hown, hts⟩ (kX5_signFor_l l G m τ V σ ns x len B (sS σ e) (sgn τ (sS σ e) (sD σ e) p) (mns τ (fS σ e) (fD σ e) p) (hOτ) (by omega) (hs10) (hvb.1) (hvb.2)) (cwV 3 hts gX5_settle_X5_signFor rfl rfl rfl (by decide +kernel) ⟨Nat.le_of_ble_eq_true rfl, Nat.le_of_ble_eq_true rfl⟩) hG (va_recv (q0 := 0) (ci := 5) hG.1 hP rfl rfl) (hP) rfl rfl hl.1 dX5_settle_145 (Nat.le_of_ble_eq_true rfl) ⟨Nat.le_of_ble_eq_true rfl, Nat.le_of_ble_eq_true rfl⟩ ?_
                        have hf145_0 := lws_le τ ((sS σ e)) ((mns τ (fS σ e) (fD σ e) p))
                        refine lv_istore (lv' := [(9, .int (zc 10 (lws τ (sS σ e) (mns τ (fS σ e) (fD σ e) p)))), (8, .int (nI (sgn τ (sS σ e) (sD σ e) p))), (0, .ref (m 0)), (1, .int (nI e)), (2, .int (nI (fS σ e))), (3, .int (nI 1)), (4, .int (nI (sS σ e))), (5, .int (nI (sD σ e))), (6, .int (nI c)), (7, .int (nI p))]) hx hb dX5_settle_148 hl (by decide) rfl (fun ls hl => ?_)
                        refine lv_iload hx hb dX5_settle_150 (lv_at hl 0 rfl) ?_
                        refine lv_bipush (v := (-4)) hx hb dX5_settle_152 (by decide) ?_
                        refine lv_icmp_ne (tgt := 164) hx hb dX5_settle_154 (by decide) (fun h154 => ?_) (fun h154 => ?_)
                        · skip
                          have h154 : ¬ (lws τ (sS σ e) (mns τ (fS σ e) (fD σ e) p) = 10) := fun q => h154 ((zc_m4 (by omega)).mpr q)
                          rw [show zc 10 (lws τ (sS σ e) (mns τ (fS σ e) (fD σ e) p)) = nI (lws τ (sS σ e) (mns τ (fS σ e) (fD σ e) p)) from zc_n h154] at hl
                          refine lv_iload hx hb dX5_settle_164 (lv_at hl 8 rfl) ?_
                          refine lv_iload hx hb dX5_settle_166 (lv_at hl 0 rfl) ?_
                          refine lv_iload hx hb dX5_settle_168 (lv_at hl 1 rfl) ?_
                          refine lv_icmp_ne (tgt := 177) hx hb dX5_settle_170 (by decide) (fun h170 => ?_) (fun h170 => ?_)
                          · skip
                            have h170 : ¬ ((lws τ (sS σ e) (mns τ (fS σ e) (fD σ e) p)) = (sgn τ (sS σ e) (sD σ e) p)) := fun q => h170 ((nI_eq (by omega) (by omega)).mpr q)
                            refine lv_iconst (v := nI 1) hx hb dX5_settle_177 (by decide) ?_
                            refine lv_iadd hx hb dX5_settle_178 ?_
                            refine lv_topi (nm_r (e' := nI (c + 1)) (nI_add _ _) ?_)
                            refine lv_istore (lv' := [(6, .int (nI (c + 1))), (9, .int (nI (lws τ (sS σ e) (mns τ (fS σ e) (fD σ e) p)))), (8, .int (nI (sgn τ (sS σ e) (sD σ e) p))), (0, .ref (m 0)), (1, .int (nI e)), (2, .int (nI (fS σ e))), (3, .int (nI 1)), (4, .int (nI (sS σ e))), (5, .int (nI (sD σ e))), (7, .int (nI p))]) hx hb dX5_settle_179 hl (by decide) rfl (fun ls hl => ?_)
                            refine lv_aload_n hx hb dX5_settle_181 rfl (lv_at hl 3 rfl) ?_
                            refine lv_iload hx hb dX5_settle_182 (lv_at hl 7 rfl) ?_
                            refine lv_bipush (v := nI 10) hx hb dX5_settle_184 (by decide) ?_
                            refine lv_iload hx hb dX5_settle_186 (lv_at hl 8 rfl) ?_
                            refine lv_imul hx hb dX5_settle_188 ?_
                            refine lv_topi (nm_r (e' := nI (10 * (sD σ e))) (pk_mul _ _) ?_)
                            refine lv_iload hx hb dX5_settle_189 (lv_at hl 9 rfl) ?_
                            refine lv_iadd hx hb dX5_settle_191 ?_
                            refine lv_topi (nm_r (e' := nI ((10 * (sD σ e)) + p)) (nI_add _ _) ?_)
                            refine lv_iload hx hb dX5_settle_192 (lv_at hl 1 rfl) ?_
                            refine zwrWv (G := G) (wc := (wM G m τ V σ ns x len B)) (wc' := (wM G m (su τ (64 + 53 * (sS σ e) + ((10 * (sD σ e)) + p)) (lws τ (sS σ e) (mns τ (fS σ e) (fD σ e) p))) V σ ns x len B)) (va_runV (As := [.int (nI (sS σ e)), .int (nI ((10 * (sD σ e)) + p)), .int (nI (lws τ (sS σ e) (mns τ (fS σ e) (fD σ e) p)))]) (rest := []) ⟨hx, hb, hml, hown, hts⟩ (kX5_puts l G m τ V σ ns x len B (sS σ e) ((10 * (sD σ e)) + p) (lws τ (sS σ e) (mns τ (fS σ e) (fD σ e) p)) (by omega) (by omega) (by omega) (zD_any hD)) (cwV 3 hts gX5_settle_X5_puts rfl rfl rfl (by decide +kernel) ⟨Nat.le_of_ble_eq_true rfl, Nat.le_of_ble_eq_true rfl⟩) (zPreV hG (va_recv (q0 := 0) (ci := 5) hG.1 hP rfl rfl) (hP)) rfl rfl hl.1 rfl (lv_room (Nat.le_of_ble_eq_true rfl)) dX5_settle_194 ⟨Nat.le_of_ble_eq_true rfl, Nat.le_of_ble_eq_true rfl⟩) hP hD hS (wM_map ..) (fun H locs hP hD hS => ?_)
                            have hP : va_P G.1 vwCl (wM G m (su τ (64 + 53 * (sS σ e) + ((10 * (sD σ e)) + p)) (lws τ (sS σ e) (mns τ (fS σ e) (fD σ e) p))) V σ ns x len B) H := hP
                            have hD : va_D (zA (wM G m σ V ζ ns x len B)) (wM G m (su τ (64 + 53 * (sS σ e) + ((10 * (sD σ e)) + p)) (lws τ (sS σ e) (mns τ (fS σ e) (fD σ e) p))) V σ ns x len B) := hD
                            refine lv_iinc (v := nI (p + 1)) (lv' := [(7, .int (nI (p + 1))), (6, .int (nI (c + 1))), (9, .int (nI (lws τ (sS σ e) (mns τ (fS σ e) (fD σ e) p)))), (8, .int (nI (sgn τ (sS σ e) (sD σ e) p))), (0, .ref (m 0)), (1, .int (nI e)), (2, .int (nI (fS σ e))), (3, .int (nI 1)), (4, .int (nI (sS σ e))), (5, .int (nI (sD σ e)))]) hx hb dX5_settle_197 hl (k := 9) rfl (zinc1 _) (by decide) rfl (fun ls hl => ?_)
                            refine lv_goto (tgt := 100) hx hb dX5_settle_200 (by decide) ?_
                            exact ih100 (p + 1) (su τ (64 + 53 * (sS σ e) + ((10 * (sD σ e)) + p)) (lws τ (sS σ e) (mns τ (fS σ e) (fD σ e) p))) (c + 1) (by rw [stl, ← hτ]; exact (stS_eq hOτ (k1 := fS σ e) (d1 := fD σ e) (show sS σ e < 36 by omega) (show sD σ e < 4 by omega) (show p < 10 by omega) (nw := lws τ (sS σ e) (mns τ (fS σ e) (fD σ e) p)) (Or.inr (Or.inr ⟨by omega, hvb.2, rfl, h154⟩))).1) (by unfold stc at hxc ⊢; rw [sm, ← hxc, ← hτ, if_neg (fun z => h170 ((stS_eq hOτ (k1 := fS σ e) (d1 := fD σ e) (show sS σ e < 36 by omega) (show sD σ e < 4 by omega) (show p < 10 by omega) (nw := lws τ (sS σ e) (mns τ (fS σ e) (fD σ e) p)) (Or.inr (Or.inr ⟨by omega, hvb.2, rfl, h154⟩))).2.mpr z))]) (fun j hj => by rcases Nat.lt_succ_iff_lt_or_eq.mp hj with q | q; exact hz j q; (rw [q, ← hτ]; exact decide_eq_false (fun z => h154 z.2.2))) (hOτ.su_sg (by omega) (by omega)) (by omega) (by omega) (by omega) _ (lv_sub hl [4, 5, 6, 7, 8, 9, 1, 0] rfl) _ _ (hP) (hD) hS
                          · skip
                            have h170 : (lws τ (sS σ e) (mns τ (fS σ e) (fD σ e) p)) = (sgn τ (sS σ e) (sD σ e) p) := (nI_eq (by omega) (by omega)).mp h170
                            refine lv_iconst (v := nI 0) hx hb dX5_settle_173 (by decide) ?_
                            refine lv_goto (tgt := 178) hx hb dX5_settle_174 (by decide) ?_
                            refine lv_iadd hx hb dX5_settle_178 ?_
                            refine lv_topi (nm_r (e' := nI (c + 0)) (nI_add _ _) ?_)
                            refine lv_istore (lv' := [(6, .int (nI (c + 0))), (9, .int (nI (lws τ (sS σ e) (mns τ (fS σ e) (fD σ e) p)))), (8, .int (nI (sgn τ (sS σ e) (sD σ e) p))), (0, .ref (m 0)), (1, .int (nI e)), (2, .int (nI (fS σ e))), (3, .int (nI 1)), (4, .int (nI (sS σ e))), (5, .int (nI (sD σ e))), (7, .int (nI p))]) hx hb dX5_settle_179 hl (by decide) rfl (fun ls hl => ?_)
                            refine lv_aload_n hx hb dX5_settle_181 rfl (lv_at hl 3 rfl) ?_
                            refine lv_iload hx hb dX5_settle_182 (lv_at hl 7 rfl) ?_
                            refine lv_bipush (v := nI 10) hx hb dX5_settle_184 (by decide) ?_
                            refine lv_iload hx hb dX5_settle_186 (lv_at hl 8 rfl) ?_
                            refine lv_imul hx hb dX5_settle_188 ?_
                            refine lv_topi (nm_r (e' := nI (10 * (sD σ e))) (pk_mul _ _) ?_)
                            refine lv_iload hx hb dX5_settle_189 (lv_at hl 9 rfl) ?_
                            refine lv_iadd hx hb dX5_settle_191 ?_
                            refine lv_topi (nm_r (e' := nI ((10 * (sD σ e)) + p)) (nI_add _ _) ?_)
                            refine lv_iload hx hb dX5_settle_192 (lv_at hl 1 rfl) ?_
                            refine zwrWv (G := G) (wc := (wM G m τ V σ ns x len B)) (wc' := (wM G m (su τ (64 + 53 * (sS σ e) + ((10 * (sD σ e)) + p)) (lws τ (sS σ e) (mns τ (fS σ e) (fD σ e) p))) V σ ns x len B)) (va_runV (As := [.int (nI (sS σ e)), .int (nI ((10 * (sD σ e)) + p)), .int (nI (lws τ (sS σ e) (mns τ (fS σ e) (fD σ e) p)))]) (rest := []) ⟨hx, hb, hml, hown, hts⟩ (kX5_puts l G m τ V σ ns x len B (sS σ e) ((10 * (sD σ e)) + p) (lws τ (sS σ e) (mns τ (fS σ e) (fD σ e) p)) (by omega) (by omega) (by omega) (zD_any hD)) (cwV 3 hts gX5_settle_X5_puts rfl rfl rfl (by decide +kernel) ⟨Nat.le_of_ble_eq_true rfl, Nat.le_of_ble_eq_true rfl⟩) (zPreV hG (va_recv (q0 := 0) (ci := 5) hG.1 hP rfl rfl) (hP)) rfl rfl hl.1 rfl (lv_room (Nat.le_of_ble_eq_true rfl)) dX5_settle_194 ⟨Nat.le_of_ble_eq_true rfl, Nat.le_of_ble_eq_true rfl⟩) hP hD hS (wM_map ..) (fun H locs hP hD hS => ?_)
                            have hP : va_P G.1 vwCl (wM G m (su τ (64 + 53 * (sS σ e) + ((10 * (sD σ e)) + p)) (lws τ (sS σ e) (mns τ (fS σ e) (fD σ e) p))) V σ ns x len B) H := hP
                            have hD : va_D (zA (wM G m σ V ζ ns x len B)) (wM G m (su τ (64 + 53 * (sS σ e) + ((10 * (sD σ e)) + p)) (lws τ (sS σ e) (mns τ (fS σ e) (fD σ e) p))) V σ ns x len B) := hD
                            refine lv_iinc (v := nI (p + 1)) (lv' := [(7, .int (nI (p + 1))), (6, .int (nI (c + 0))), (9, .int (nI (lws τ (sS σ e) (mns τ (fS σ e) (fD σ e) p)))), (8, .int (nI (sgn τ (sS σ e) (sD σ e) p))), (0, .ref (m 0)), (1, .int (nI e)), (2, .int (nI (fS σ e))), (3, .int (nI 1)), (4, .int (nI (sS σ e))), (5, .int (nI (sD σ e)))]) hx hb dX5_settle_197 hl (k := 9) rfl (zinc1 _) (by decide) rfl (fun ls hl => ?_)
                            refine lv_goto (tgt := 100) hx hb dX5_settle_200 (by decide) ?_
                            exact ih100 (p + 1) (su τ (64 + 53 * (sS σ e) + ((10 * (sD σ e)) + p)) (lws τ (sS σ e) (mns τ (fS σ e) (fD σ e) p))) (c + 0) (by rw [stl, ← hτ]; exact (stS_eq hOτ (k1 := fS σ e) (d1 := fD σ e) (show sS σ e < 36 by omega) (show sD σ e < 4 by omega) (show p < 10 by omega) (nw := lws τ (sS σ e) (mns τ (fS σ e) (fD σ e) p)) (Or.inr (Or.inr ⟨by omega, hvb.2, rfl, h154⟩))).1) (by unfold stc at hxc ⊢; rw [sm, ← hxc, ← hτ, if_pos ((stS_eq hOτ (k1 := fS σ e) (d1 := fD σ e) (show sS σ e < 36 by omega) (show sD σ e < 4 by omega) (show p < 10 by omega) (nw := lws τ (sS σ e) (mns τ (fS σ e) (fD σ e) p)) (Or.inr (Or.inr ⟨by omega, hvb.2, rfl, h154⟩))).2.mp h170)]) (fun j hj => by rcases Nat.lt_succ_iff_lt_or_eq.mp hj with q | q; exact hz j q; (rw [q, ← hτ]; exact decide_eq_false (fun z => h154 z.2.2))) (hOτ.su_sg (by omega) (by omega)) (by omega) (by omega) (by omega) _ (lv_sub hl [4, 5, 6, 7, 8, 9, 1, 0] rfl) _ _ (hP) (hD) hS
                        · skip
                          have h154 : lws τ (sS σ e) (mns τ (fS σ e) (fD σ e) p) = 10 := (zc_m4 (by omega)).mp h154
                          refine lv_aload_n hx hb dX5_settle_157 rfl (lv_at hl 2 rfl) ?_
                          refine zwrWv (G := G) (wc := (wM G m τ V σ ns x len B)) (wc' := (wM G m σ V σ ns x len B)) (va_runV (As := []) (rest := []) ⟨hx, hb, hml, hown, hts⟩ (kX5_restore l G m τ V σ ns x len B (zD_any hD)) (cwV 0 hts gX5_settle_X5_restore rfl rfl rfl (by decide +kernel) ⟨Nat.le_of_ble_eq_true rfl, Nat.le_of_ble_eq_true rfl⟩) (zPreV hG (va_recv (q0 := 0) (ci := 5) hG.1 hP rfl rfl) (hP)) rfl rfl hl.1 rfl (lv_room (Nat.le_of_ble_eq_true rfl)) dX5_settle_158 ⟨Nat.le_of_ble_eq_true rfl, Nat.le_of_ble_eq_true rfl⟩) hP hD hS (wM_map ..) (fun H locs hP hD hS => ?_)
                          have hP : va_P G.1 vwCl (wM G m σ V σ ns x len B) H := hP
                          have hD : va_D (zA (wM G m σ V ζ ns x len B)) (wM G m σ V σ ns x len B) := hD
                          refine lv_bipush (v := (-2)) hx hb dX5_settle_161 (by decide) ?_
                          exact hret _ _ _ _ _ dX5_settle_163 hS (hP) (rfl)
              exact loop100 11 0 σ 0 (rfl) (rfl) (fun j hj => absurd hj (Nat.not_lt_zero j)) (hO) (by omega) (by omega) (by omega) _ (lv_sub hl [5, 6, 7, 4, 3, 2, 1, 0] rfl) _ _ (hP) (hD) hS
          · skip
            have h67 : 1 = 0 := (z_eq0 (by omega)).mp h67
            exfalso; omega
    · skip
      have h14 : ¬ ((fS σ e) = (fS σ e)) := fun q => h14 ((nI_eq (by omega) (by omega)).mpr q)
      exfalso; omega
set_option maxHeartbeats 4000000 in
set_option maxRecDepth 100000 in
theorem kX5_settle_s_ok (l : Launch) (G : zG) (m : Nat → Nat) (σ : Nat → Nat) (V : Nat → Nat → Nat) (ζ : Nat → Nat) (ns : Nat) (x : Nat → Nat) (len : Nat) (B : Nat → Int32) {N : Nat} (e : Nat) (hO : Ok N σ) (hns : ns ≤ 4) (he : e < nE σ) (hbad : ¬ sbd σ (sS σ e) (sD σ e) (fS σ e) (fD σ e) < 10) (hd : va_D (fun _ => True) (wM G m σ V ζ ns x len B)) : Met l yX5_settle wsX5_settle (zRm 4 91) (zPc G [.ref (m 0), .int (nI e), .int (nI (sS σ e))] (va_P G.1 vwCl (wM G m σ V ζ ns x len B))) (zQ (zA (wM G m σ V ζ ns x len B)) (some (.int (nI (stc σ (sS σ e) (sD σ e) (fS σ e) (fD σ e) 10)))) (va_P G.1 vwCl (wM G m (stE σ (sS σ e) (sD σ e) (fS σ e) (fD σ e)) (updv V ns σ) σ (nN ns) x len B))) 0 0 (zA (wM G m σ V ζ ns x len B)) := by
  refine zmkWi (w := (wM G m σ V ζ ns x len B)) hd (cc := cX5_settle) (maxL := 10) (by decide) rfl (Nat.le_of_ble_eq_true rfl) ?_
  intro pr en st mi ar bl me cd ls Q hx hb hml hown hts hG hP hl hD hS hret
  have hown : st.vm.findClass RX5 = some mi.cls := hown
  have hl : lv_has ls 10 [(0, .ref (m 0)), (1, .int (nI e)), (2, .int (nI (sS σ e)))] := hl
  have hP : va_P G.1 vwCl (wM G m σ V ζ ns x len B) st.heap := hP
  have hD : va_D (zA (wM G m σ V ζ ns x len B)) (wM G m σ V ζ ns x len B) := hD
  have hc := hO.c
  have hs := hO.lS
  have hr := hO.lR
  have hne := hO.lE
  have hve : 0 ≤ nI e ∧ nI e < nI (nE σ) := z_in he (by omega)
  have hlt : fS σ e < sS σ e := by unfold sS; have := hO.c; split <;> omega
  have hda := fD_lt σ e
  have hdb := sD_lt σ e
  have hstc := stc_le σ (sS σ e) (sD σ e) (fS σ e) (fD σ e) 10
  have hfs := hO.lF he
  refine lv_aload_n hx hb dX5_settle_0 rfl (lv_at hl 0 rfl) ?_
  refine lv_iload_n hx hb dX5_settle_1 rfl (lv_at hl 1 rfl) ?_
  refine zrdV (As := [.int (nI e)]) ⟨hx, hb, hml, hown, hts⟩ (kX5_isEdge l G m σ V ζ ns x len B (nI e) (hO)) (cwV 1 hts gX5_settle_X5_isEdge rfl rfl rfl (by decide +kernel) ⟨Nat.le_of_ble_eq_true rfl, Nat.le_of_ble_eq_true rfl⟩) hG (va_recv (q0 := 0) (ci := 5) hG.1 hP rfl rfl) (hP) rfl rfl hl.1 dX5_settle_2 (Nat.le_of_ble_eq_true rfl) ⟨Nat.le_of_ble_eq_true rfl, Nat.le_of_ble_eq_true rfl⟩ ?_
  refine lv_if_eq (tgt := 26) hx hb dX5_settle_5 (by decide) (fun h5 => ?_) (fun h5 => ?_)
  · skip
    have h5 : ¬ (0 ≤ (nI e) ∧ (nI e) < nI (nE σ)) := (z_b0).mp h5
    exact absurd hve h5
  · skip
    have h5 : ¬ (¬ (0 ≤ (nI e) ∧ (nI e) < nI (nE σ))) := fun q => h5 ((z_b0).mpr q)
    have h5 : 0 ≤ (nI e) ∧ (nI e) < nI (nE σ) := Decidable.of_not_not h5
    refine lv_iload_n hx hb dX5_settle_8 rfl (lv_at hl 2 rfl) ?_
    refine lv_aload_n hx hb dX5_settle_9 rfl (lv_at hl 0 rfl) ?_
    refine lv_iload_n hx hb dX5_settle_10 rfl (lv_at hl 1 rfl) ?_
    refine zrdV (As := [.int (nI e)]) ⟨hx, hb, hml, hown, hts⟩ (kX5_firstOf l G m σ V ζ ns x len B e (hO) (by omega)) (cwV 1 hts gX5_settle_X5_firstOf rfl rfl rfl (by decide +kernel) ⟨Nat.le_of_ble_eq_true rfl, Nat.le_of_ble_eq_true rfl⟩) hG (va_recv (q0 := 0) (ci := 5) hG.1 hP rfl rfl) (hP) rfl rfl hl.1 dX5_settle_11 (Nat.le_of_ble_eq_true rfl) ⟨Nat.le_of_ble_eq_true rfl, Nat.le_of_ble_eq_true rfl⟩ ?_
    have hf11_0 := hO.lF (show e < nE σ by omega)
    refine lv_icmp_eq (tgt := 28) hx hb dX5_settle_14 (by decide) (fun h14 => ?_) (fun h14 => ?_)
    · skip
      have h14 : (sS σ e) = (fS σ e) := (nI_eq (by omega) (by omega)).mp h14
      exfalso; omega
    · skip
      have h14 : ¬ ((sS σ e) = (fS σ e)) := fun q => h14 ((nI_eq (by omega) (by omega)).mpr q)
      refine lv_iload_n hx hb dX5_settle_17 rfl (lv_at hl 2 rfl) ?_
      refine lv_aload_n hx hb dX5_settle_18 rfl (lv_at hl 0 rfl) ?_
      refine lv_iload_n hx hb dX5_settle_19 rfl (lv_at hl 1 rfl) ?_
      refine zrdV (As := [.int (nI e)]) ⟨hx, hb, hml, hown, hts⟩ (kX5_secondOf l G m σ V ζ ns x len B e (hO) (by omega)) (cwV 1 hts gX5_settle_X5_secondOf rfl rfl rfl (by decide +kernel) ⟨Nat.le_of_ble_eq_true rfl, Nat.le_of_ble_eq_true rfl⟩) hG (va_recv (q0 := 0) (ci := 5) hG.1 hP rfl rfl) (hP) rfl rfl hl.1 dX5_settle_20 (Nat.le_of_ble_eq_true rfl) ⟨Nat.le_of_ble_eq_true rfl, Nat.le_of_ble_eq_true rfl⟩ ?_
      have hf20_0 := hO.lF (show e < nE σ by omega)
      refine lv_icmp_eq (tgt := 28) hx hb dX5_settle_23 (by decide) (fun h23 => ?_) (fun h23 => ?_)
      · skip
        have h23 : (sS σ e) = (sS σ e) := (nI_eq (by omega) (by omega)).mp h23
        refine lv_aload_n hx hb dX5_settle_28 rfl (lv_at hl 0 rfl) ?_
        refine zwrWv (G := G) (wc := (wM G m σ V ζ ns x len B)) (wc' := (wM G m σ V σ ns x len B)) (va_runV (As := []) (rest := []) ⟨hx, hb, hml, hown, hts⟩ (kX5_hold l G m σ V ζ ns x len B (zD_any hD)) (cwV 0 hts gX5_settle_X5_hold rfl rfl rfl (by decide +kernel) ⟨Nat.le_of_ble_eq_true rfl, Nat.le_of_ble_eq_true rfl⟩) (zPreV hG (va_recv (q0 := 0) (ci := 5) hG.1 hP rfl rfl) (hP)) rfl rfl hl.1 rfl (lv_room (Nat.le_of_ble_eq_true rfl)) dX5_settle_29 ⟨Nat.le_of_ble_eq_true rfl, Nat.le_of_ble_eq_true rfl⟩) hP hD hS (wM_map ..) (fun H locs hP hD hS => ?_)
        have hP : va_P G.1 vwCl (wM G m σ V σ ns x len B) H := hP
        have hD : va_D (zA (wM G m σ V ζ ns x len B)) (wM G m σ V σ ns x len B) := hD
        refine lv_iload_n hx hb dX5_settle_32 rfl (lv_at hl 2 rfl) ?_
        refine lv_aload_n hx hb dX5_settle_33 rfl (lv_at hl 0 rfl) ?_
        refine lv_iload_n hx hb dX5_settle_34 rfl (lv_at hl 1 rfl) ?_
        refine zrdV (As := [.int (nI e)]) ⟨hx, hb, hml, hown, hts⟩ (kX5_firstOf l G m σ V σ ns x len B e (hO) (by omega)) (cwV 1 hts gX5_settle_X5_firstOf rfl rfl rfl (by decide +kernel) ⟨Nat.le_of_ble_eq_true rfl, Nat.le_of_ble_eq_true rfl⟩) hG (va_recv (q0 := 0) (ci := 5) hG.1 hP rfl rfl) (hP) rfl rfl hl.1 dX5_settle_35 (Nat.le_of_ble_eq_true rfl) ⟨Nat.le_of_ble_eq_true rfl, Nat.le_of_ble_eq_true rfl⟩ ?_
        have hf35_0 := hO.lF (show e < nE σ by omega)
        refine lv_icmp_ne (tgt := 45) hx hb dX5_settle_38 (by decide) (fun h38 => ?_) (fun h38 => ?_)
        · skip
          have h38 : ¬ ((sS σ e) = (fS σ e)) := fun q => h38 ((nI_eq (by omega) (by omega)).mpr q)
          refine lv_iconst (v := nI 0) hx hb dX5_settle_45 (by decide) ?_
          refine lv_istore_n (lv' := [(3, .int (nI 0)), (0, .ref (m 0)), (1, .int (nI e)), (2, .int (nI (sS σ e)))]) hx hb dX5_settle_46 rfl hl (by decide) rfl (fun ls hl => ?_)
          refine lv_iload_n hx hb dX5_settle_47 rfl (lv_at hl 0 rfl) ?_
          refine lv_if_eq (tgt := 59) hx hb dX5_settle_48 (by decide) (fun h48 => ?_) (fun h48 => ?_)
          · skip
            have h48 : 0 = 0 := (z_eq0 (by omega)).mp h48
            refine lv_aload_n hx hb dX5_settle_59 rfl (lv_at hl 1 rfl) ?_
            refine lv_iload_n hx hb dX5_settle_60 rfl (lv_at hl 2 rfl) ?_
            refine zrdV (As := [.int (nI e)]) ⟨hx, hb, hml, hown, hts⟩ (kX5_firstOf l G m σ V σ ns x len B e (hO) (by omega)) (cwV 1 hts gX5_settle_X5_firstOf rfl rfl rfl (by decide +kernel) ⟨Nat.le_of_ble_eq_true rfl, Nat.le_of_ble_eq_true rfl⟩) hG (va_recv (q0 := 0) (ci := 5) hG.1 hP rfl rfl) (hP) rfl rfl hl.1 dX5_settle_61 (Nat.le_of_ble_eq_true rfl) ⟨Nat.le_of_ble_eq_true rfl, Nat.le_of_ble_eq_true rfl⟩ ?_
            have hf61_0 := hO.lF (show e < nE σ by omega)
            refine lv_istore (lv' := [(4, .int (nI (fS σ e))), (3, .int (nI 0)), (0, .ref (m 0)), (1, .int (nI e)), (2, .int (nI (sS σ e)))]) hx hb dX5_settle_64 hl (by decide) rfl (fun ls hl => ?_)
            refine lv_iload_n hx hb dX5_settle_66 rfl (lv_at hl 1 rfl) ?_
            refine lv_if_ne (tgt := 78) hx hb dX5_settle_67 (by decide) (fun h67 => ?_) (fun h67 => ?_)
            · skip
              have h67 : ¬ (0 = 0) := fun q => h67 ((z_eq0 (by omega)).mpr q)
              have h67 : 0 < 0 := Nat.pos_of_ne_zero h67
              exfalso; omega
            · skip
              have h67 : 0 = 0 := (z_eq0 (by omega)).mp h67
              refine lv_aload_n hx hb dX5_settle_70 rfl (lv_at hl 2 rfl) ?_
              refine lv_iload_n hx hb dX5_settle_71 rfl (lv_at hl 3 rfl) ?_
              refine zrdV (As := [.int (nI e)]) ⟨hx, hb, hml, hown, hts⟩ (kX5_sideOf l G m σ V σ ns x len B e (hO) (by omega)) (cwV 1 hts gX5_settle_X5_sideOf rfl rfl rfl (by decide +kernel) ⟨Nat.le_of_ble_eq_true rfl, Nat.le_of_ble_eq_true rfl⟩) hG (va_recv (q0 := 0) (ci := 5) hG.1 hP rfl rfl) (hP) rfl rfl hl.1 dX5_settle_72 (Nat.le_of_ble_eq_true rfl) ⟨Nat.le_of_ble_eq_true rfl, Nat.le_of_ble_eq_true rfl⟩ ?_
              have hf72_0 := fD_lt σ (e)
              refine lv_goto (tgt := 92) hx hb dX5_settle_75 (by decide) ?_
              refine lv_istore (lv' := [(5, .int (nI (fD σ e))), (4, .int (nI (fS σ e))), (3, .int (nI 0)), (0, .ref (m 0)), (1, .int (nI e)), (2, .int (nI (sS σ e)))]) hx hb dX5_settle_92 hl (by decide) rfl (fun ls hl => ?_)
              refine lv_iconst (v := nI 0) hx hb dX5_settle_94 (by decide) ?_
              refine lv_istore (lv' := [(6, .int (nI 0)), (5, .int (nI (fD σ e))), (4, .int (nI (fS σ e))), (3, .int (nI 0)), (0, .ref (m 0)), (1, .int (nI e)), (2, .int (nI (sS σ e)))]) hx hb dX5_settle_95 hl (by decide) rfl (fun ls hl => ?_)
              refine lv_iconst (v := nI 0) hx hb dX5_settle_97 (by decide) ?_
              refine lv_istore (lv' := [(7, .int (nI 0)), (6, .int (nI 0)), (5, .int (nI (fD σ e))), (4, .int (nI (fS σ e))), (3, .int (nI 0)), (0, .ref (m 0)), (1, .int (nI e)), (2, .int (nI (sS σ e)))]) hx hb dX5_settle_98 hl (by decide) rfl (fun ls hl => ?_)
              have loop100 : ∀ (n : Nat) (p : Nat) (τ : Nat → Nat) (c : Nat) (hτ : τ = stl σ (sS σ e) (sD σ e) (fS σ e) (fD σ e) p) (hxc : c = stc σ (sS σ e) (sD σ e) (fS σ e) (fD σ e) p) (hz : ∀ j, j < p → sBad (stl σ (sS σ e) (sD σ e) (fS σ e) (fD σ e) j) (sS σ e) (sD σ e) (fS σ e) (fD σ e) j = false) (hOτ : Ok N τ) (hp : p ≤ 10) (hcp : c ≤ p) (hn : 10 < p + n) (ls : Array Slot) (hl : lv_has ls 10 [(0, .ref (m 0)), (1, .int (nI e)), (2, .int (nI (sS σ e))), (3, .int (nI 0)), (4, .int (nI (fS σ e))), (5, .int (nI (fD σ e))), (6, .int (nI c)), (7, .int (nI p))]) (H : Heap) (locs : List Loc) (hP : va_P G.1 vwCl (wM G m τ V σ ns x len B) H) (hD : va_D (zA (wM G m σ V ζ ns x len B)) (wM G m τ V σ ns x len B)) (hS : va_S (zA (wM G m σ V ζ ns x len B)) st.heap H locs), W pr l en (zRm 4 91) st mi ar bl me cd H locs 0 0 Q (F0 mi 100 ls []) := by
                intro n
                induction n with
                | zero => intro p τ c hτ hxc hz hOτ hp hcp hn ls hl H locs hP hD hS; exfalso; omega
                | succ n ih100 =>
                  intro p τ c hτ hxc hz hOτ hp hcp hn ls hl H locs hP hD hS
                  refine lv_iload hx hb dX5_settle_100 (lv_at hl 7 rfl) ?_
                  refine lv_bipush (v := nI 10) hx hb dX5_settle_102 (by decide) ?_
                  refine lv_icmp_ge (tgt := 203) hx hb dX5_settle_104 (by decide) (fun h104 => ?_) (fun h104 => ?_)
                  · skip
                    have h104 : 10 ≤ p := (nI_leI (by omega) (by omega)).mp h104
                    obtain rfl : p = 10 := (by omega)
                    refine lv_iload hx hb dX5_settle_203 (lv_at hl 6 rfl) ?_
                    refine lv_if_le (tgt := 214) hx hb dX5_settle_205 (by decide) (fun h205 => ?_) (fun h205 => ?_)
                    · skip
                      have h205 : c = 0 := (z_le0 (by omega)).mp h205
                      refine lv_aload_n hx hb dX5_settle_214 rfl (lv_at hl 0 rfl) ?_
                      refine lv_iload hx hb dX5_settle_215 (lv_at hl 6 rfl) ?_
                      refine zwrW (G := G) (wc := (wM G m τ V σ ns x len B)) (wc' := (wM G m τ (updv V ns σ) σ (nN ns) x len B)) (va_runV (As := [.int (nI c)]) (rest := []) ⟨hx, hb, hml, hown, hts⟩ (kX5_records l G m τ V σ ns x len B (nI c) (by omega) (zD_any hD)) (cwV 1 hts gX5_settle_X5_records rfl rfl rfl (by decide +kernel) ⟨Nat.le_of_ble_eq_true rfl, Nat.le_of_ble_eq_true rfl⟩) (zPreV hG (va_recv (q0 := 0) (ci := 5) hG.1 hP rfl rfl) (hP)) rfl rfl hl.1 rfl (lv_room (Nat.le_of_ble_eq_true rfl)) dX5_settle_217 ⟨Nat.le_of_ble_eq_true rfl, Nat.le_of_ble_eq_true rfl⟩) hP hD hS (wM_map ..) (fun H locs hP hD hS => ?_)
                      have hP : va_P G.1 vwCl (wM G m τ (updv V ns σ) σ (nN ns) x len B) H := hP
                      have hD : va_D (zA (wM G m σ V ζ ns x len B)) (wM G m τ (updv V ns σ) σ (nN ns) x len B) := hD
                      exact hret _ _ _ _ _ dX5_settle_220 hS (by rw [show stE σ (sS σ e) (sD σ e) (fS σ e) (fD σ e) = _ from if_neg (by rw [← hxc]; omega), ← hτ]; exact hP) (by rw [← hxc])
                    · skip
                      have h205 : ¬ (c = 0) := fun q => h205 ((z_le0 (by omega)).mpr q)
                      have h205 : 0 < c := Nat.pos_of_ne_zero h205
                      refine lv_aload_n hx hb dX5_settle_208 rfl (lv_at hl 0 rfl) ?_
                      refine lv_iload hx hb dX5_settle_209 (lv_at hl 4 rfl) ?_
                      refine zwrWv (G := G) (wc := (wM G m τ V σ ns x len B)) (wc' := (wM G m (su τ (114 + 53 * (fS σ e)) (rvn τ (fS σ e) + 1)) V σ ns x len B)) (va_runV (As := [.int (nI (fS σ e))]) (rest := []) ⟨hx, hb, hml, hown, hts⟩ (kX5_revises l G m τ V σ ns x len B (fS σ e) (by omega) (zD_any hD)) (cwV 1 hts gX5_settle_X5_revises rfl rfl rfl (by decide +kernel) ⟨Nat.le_of_ble_eq_true rfl, Nat.le_of_ble_eq_true rfl⟩) (zPreV hG (va_recv (q0 := 0) (ci := 5) hG.1 hP rfl rfl) (hP)) rfl rfl hl.1 rfl (lv_room (Nat.le_of_ble_eq_true rfl)) dX5_settle_211 ⟨Nat.le_of_ble_eq_true rfl, Nat.le_of_ble_eq_true rfl⟩) hP hD hS (wM_map ..) (fun H locs hP hD hS => ?_)
                      have hP : va_P G.1 vwCl (wM G m (su τ (114 + 53 * (fS σ e)) (rvn τ (fS σ e) + 1)) V σ ns x len B) H := hP
                      have hD : va_D (zA (wM G m σ V ζ ns x len B)) (wM G m (su τ (114 + 53 * (fS σ e)) (rvn τ (fS σ e) + 1)) V σ ns x len B) := hD
                      refine lv_aload_n hx hb dX5_settle_214 rfl (lv_at hl 0 rfl) ?_
                      refine lv_iload hx hb dX5_settle_215 (lv_at hl 6 rfl) ?_
                      refine zwrW (G := G) (wc := (wM G m (su τ (114 + 53 * (fS σ e)) (rvn τ (fS σ e) + 1)) V σ ns x len B)) (wc' := (wM G m (su τ (114 + 53 * (fS σ e)) (rvn τ (fS σ e) + 1)) (updv V ns σ) σ (nN ns) x len B)) (va_runV (As := [.int (nI c)]) (rest := []) ⟨hx, hb, hml, hown, hts⟩ (kX5_records l G m (su τ (114 + 53 * (fS σ e)) (rvn τ (fS σ e) + 1)) V σ ns x len B (nI c) (by omega) (zD_any hD)) (cwV 1 hts gX5_settle_X5_records rfl rfl rfl (by decide +kernel) ⟨Nat.le_of_ble_eq_true rfl, Nat.le_of_ble_eq_true rfl⟩) (zPreV hG (va_recv (q0 := 0) (ci := 5) hG.1 hP rfl rfl) (hP)) rfl rfl hl.1 rfl (lv_room (Nat.le_of_ble_eq_true rfl)) dX5_settle_217 ⟨Nat.le_of_ble_eq_true rfl, Nat.le_of_ble_eq_true rfl⟩) hP hD hS (wM_map ..) (fun H locs hP hD hS => ?_)
                      have hP : va_P G.1 vwCl (wM G m (su τ (114 + 53 * (fS σ e)) (rvn τ (fS σ e) + 1)) (updv V ns σ) σ (nN ns) x len B) H := hP
                      have hD : va_D (zA (wM G m σ V ζ ns x len B)) (wM G m (su τ (114 + 53 * (fS σ e)) (rvn τ (fS σ e) + 1)) (updv V ns σ) σ (nN ns) x len B) := hD
                      exact hret _ _ _ _ _ dX5_settle_220 hS (by rw [show stE σ (sS σ e) (sD σ e) (fS σ e) (fD σ e) = _ from if_pos (by rw [← hxc]; omega), ← hτ]; exact hP) (by rw [← hxc])
                  · skip
                    have h104 : ¬ (10 ≤ p) := fun q => h104 ((nI_leI (by omega) (by omega)).mpr q)
                    have t0 : τ 0 = σ 0 := by rw [hτ]; exact stl_lo (by omega) p
                    have t1 : τ 1 = σ 1 := by rw [hτ]; exact stl_lo (by omega) p
                    have tE := nE_lo t0 t1
                    have tf := fS_lo t0 t1 e
                    have ts := sS_lo t0 t1 e
                    have tfd := fD_lo t0 t1 e
                    have tsd := sD_lo t0 t1 e
                    refine lv_aload_n hx hb dX5_settle_107 rfl (lv_at hl 0 rfl) ?_
                    refine lv_iload hx hb dX5_settle_108 (lv_at hl 4 rfl) ?_
                    refine lv_iload hx hb dX5_settle_110 (lv_at hl 5 rfl) ?_
                    refine lv_iload hx hb dX5_settle_112 (lv_at hl 7 rfl) ?_
                    refine zrdV (As := [.int (nI (fS σ e)), .int (nI (fD σ e)), .int (nI p)]) ⟨hx, hb, hml, hown, hts⟩ (kX5_signAt l G m τ V σ ns x len B (fS σ e) (fD σ e) p (by omega) (by omega) (by omega)) (cwV 3 hts gX5_settle_X5_signAt rfl rfl rfl (by decide +kernel) ⟨Nat.le_of_ble_eq_true rfl, Nat.le_of_ble_eq_true rfl⟩) hG (va_recv (q0 := 0) (ci := 5) hG.1 hP rfl rfl) (hP) rfl rfl hl.1 dX5_settle_114 (Nat.le_of_ble_eq_true rfl) ⟨Nat.le_of_ble_eq_true rfl, Nat.le_of_ble_eq_true rfl⟩ ?_
                    refine lv_istore (lv' := [(8, .int (nI (sgn τ (fS σ e) (fD σ e) p))), (0, .ref (m 0)), (1, .int (nI e)), (2, .int (nI (sS σ e))), (3, .int (nI 0)), (4, .int (nI (fS σ e))), (5, .int (nI (fD σ e))), (6, .int (nI c)), (7, .int (nI p))]) hx hb dX5_settle_117 hl (by decide) rfl (fun ls hl => ?_)
                    refine lv_aload_n hx hb dX5_settle_119 rfl (lv_at hl 1 rfl) ?_
                    refine lv_iload hx hb dX5_settle_120 (lv_at hl 5 rfl) ?_
                    refine lv_iload hx hb dX5_settle_122 (lv_at hl 0 rfl) ?_
                    refine lv_iload_n hx hb dX5_settle_124 rfl (lv_at hl 4 rfl) ?_
                    refine lv_if_eq (tgt := 138) hx hb dX5_settle_125 (by decide) (fun h125 => ?_) (fun h125 => ?_)
                    · skip
                      have h125 : 0 = 0 := (z_eq0 (by omega)).mp h125
                      refine lv_aload_n hx hb dX5_settle_138 rfl (lv_at hl 1 rfl) ?_
                      refine lv_iload_n hx hb dX5_settle_139 rfl (lv_at hl 2 rfl) ?_
                      refine lv_iload hx hb dX5_settle_140 (lv_at hl 8 rfl) ?_
                      refine zrdV (As := [.int (nI e), .int (nI p)]) ⟨hx, hb, hml, hown, hts⟩ (kX5_secondMeans l G m τ V σ ns x len B e p (hOτ) (by omega) (by omega)) (cwV 2 hts gX5_settle_X5_secondMeans rfl rfl rfl (by decide +kernel) ⟨Nat.le_of_ble_eq_true rfl, Nat.le_of_ble_eq_true rfl⟩) hG (va_recv (q0 := 0) (ci := 5) hG.1 hP rfl rfl) (hP) rfl rfl hl.1 dX5_settle_142 (Nat.le_of_ble_eq_true rfl) ⟨Nat.le_of_ble_eq_true rfl, Nat.le_of_ble_eq_true rfl⟩ ?_
                      have hf142_0 := hOτ.mn (show sS τ (e) < 36 by have := hOτ.lF (show e < nE τ by omega); omega) (sD_lt τ (e)) (show p < 10 by omega)
                      refine lv_topi (nm_r (e' := nI (mns τ (sS σ e) (sD σ e) p)) (by rw [ts, tsd]) ?_)
                      have hv10 := hOτ.mn (show sS σ e < 36 by omega) (show sD σ e < 4 by omega) (show p < 10 by omega)
                      have hs10 := hOτ.sg (show fS σ e < 36 by omega) (show fD σ e < 4 by omega) (show p < 10 by omega)
                      rcases (show mns τ (sS σ e) (sD σ e) p = 10 ∨ (mns τ (sS σ e) (sD σ e) p < 10 ∧ (sgn τ (fS σ e) (fD σ e) p < 10 ∧ mng τ (fS σ e) (sgn τ (fS σ e) (fD σ e) p) = mns τ (sS σ e) (sD σ e) p)) ∨ (mns τ (sS σ e) (sD σ e) p < 10 ∧ ¬ (sgn τ (fS σ e) (fD σ e) p < 10 ∧ mng τ (fS σ e) (sgn τ (fS σ e) (fD σ e) p) = mns τ (sS σ e) (sD σ e) p)) by by_cases z : mns τ (sS σ e) (sD σ e) p = 10; exact Or.inl z; right; by_cases y : sgn τ (fS σ e) (fD σ e) p < 10 ∧ mng τ (fS σ e) (sgn τ (fS σ e) (fD σ e) p) = mns τ (sS σ e) (sD σ e) p; exact Or.inl ⟨by omega, y⟩; exact Or.inr ⟨by omega, y⟩) with hva | hvb | hvb
                      · skip
                        rw [show nI (mns τ (sS σ e) (sD σ e) p) = nI 10 by rw [hva]]
                        refine zrdV (As := [.int (nI (fS σ e)), .int (nI (sgn τ (fS σ e) (fD σ e) p)), .int (nI 10)]) ⟨hx, hb, hml, hown, hts⟩ (kX5_signFor_10 l G m τ V σ ns x len B (fS σ e) (sgn τ (fS σ e) (fD σ e) p)) (cwV 3 hts gX5_settle_X5_signFor rfl rfl rfl (by decide +kernel) ⟨Nat.le_of_ble_eq_true rfl, Nat.le_of_ble_eq_true rfl⟩) hG (va_recv (q0 := 0) (ci := 5) hG.1 hP rfl rfl) (hP) rfl rfl hl.1 dX5_settle_145 (Nat.le_of_ble_eq_true rfl) ⟨Nat.le_of_ble_eq_true rfl, Nat.le_of_ble_eq_true rfl⟩ ?_
                        refine lv_istore (lv' := [(9, .int (nI 10)), (8, .int (nI (sgn τ (fS σ e) (fD σ e) p))), (0, .ref (m 0)), (1, .int (nI e)), (2, .int (nI (sS σ e))), (3, .int (nI 0)), (4, .int (nI (fS σ e))), (5, .int (nI (fD σ e))), (6, .int (nI c)), (7, .int (nI p))]) hx hb dX5_settle_148 hl (by decide) rfl (fun ls hl => ?_)
                        refine lv_iload hx hb dX5_settle_150 (lv_at hl 0 rfl) ?_
                        refine lv_bipush (v := (-4)) hx hb dX5_settle_152 (by decide) ?_
                        refine lv_icmp_ne (tgt := 164) hx hb dX5_settle_154 (by decide) (fun h154 => ?_) (fun h154 => ?_)
                        · skip
                          have h154 : ¬ (False) := fun q => h154 ((iff_of_false (z_m4 (by omega)) id).mpr q)
                          refine lv_iload hx hb dX5_settle_164 (lv_at hl 8 rfl) ?_
                          refine lv_iload hx hb dX5_settle_166 (lv_at hl 0 rfl) ?_
                          refine lv_iload hx hb dX5_settle_168 (lv_at hl 1 rfl) ?_
                          refine lv_icmp_ne (tgt := 177) hx hb dX5_settle_170 (by decide) (fun h170 => ?_) (fun h170 => ?_)
                          · skip
                            have h170 : ¬ (10 = (sgn τ (fS σ e) (fD σ e) p)) := fun q => h170 ((nI_eq (by omega) (by omega)).mpr q)
                            refine lv_iconst (v := nI 1) hx hb dX5_settle_177 (by decide) ?_
                            refine lv_iadd hx hb dX5_settle_178 ?_
                            refine lv_topi (nm_r (e' := nI (c + 1)) (nI_add _ _) ?_)
                            refine lv_istore (lv' := [(6, .int (nI (c + 1))), (9, .int (nI 10)), (8, .int (nI (sgn τ (fS σ e) (fD σ e) p))), (0, .ref (m 0)), (1, .int (nI e)), (2, .int (nI (sS σ e))), (3, .int (nI 0)), (4, .int (nI (fS σ e))), (5, .int (nI (fD σ e))), (7, .int (nI p))]) hx hb dX5_settle_179 hl (by decide) rfl (fun ls hl => ?_)
                            refine lv_aload_n hx hb dX5_settle_181 rfl (lv_at hl 3 rfl) ?_
                            refine lv_iload hx hb dX5_settle_182 (lv_at hl 7 rfl) ?_
                            refine lv_bipush (v := nI 10) hx hb dX5_settle_184 (by decide) ?_
                            refine lv_iload hx hb dX5_settle_186 (lv_at hl 8 rfl) ?_
                            refine lv_imul hx hb dX5_settle_188 ?_
                            refine lv_topi (nm_r (e' := nI (10 * (fD σ e))) (pk_mul _ _) ?_)
                            refine lv_iload hx hb dX5_settle_189 (lv_at hl 9 rfl) ?_
                            refine lv_iadd hx hb dX5_settle_191 ?_
                            refine lv_topi (nm_r (e' := nI ((10 * (fD σ e)) + p)) (nI_add _ _) ?_)
                            refine lv_iload hx hb dX5_settle_192 (lv_at hl 1 rfl) ?_
                            refine zwrWv (G := G) (wc := (wM G m τ V σ ns x len B)) (wc' := (wM G m (su τ (64 + 53 * (fS σ e) + ((10 * (fD σ e)) + p)) 10) V σ ns x len B)) (va_runV (As := [.int (nI (fS σ e)), .int (nI ((10 * (fD σ e)) + p)), .int (nI 10)]) (rest := []) ⟨hx, hb, hml, hown, hts⟩ (kX5_puts l G m τ V σ ns x len B (fS σ e) ((10 * (fD σ e)) + p) 10 (by omega) (by omega) (by omega) (zD_any hD)) (cwV 3 hts gX5_settle_X5_puts rfl rfl rfl (by decide +kernel) ⟨Nat.le_of_ble_eq_true rfl, Nat.le_of_ble_eq_true rfl⟩) (zPreV hG (va_recv (q0 := 0) (ci := 5) hG.1 hP rfl rfl) (hP)) rfl rfl hl.1 rfl (lv_room (Nat.le_of_ble_eq_true rfl)) dX5_settle_194 ⟨Nat.le_of_ble_eq_true rfl, Nat.le_of_ble_eq_true rfl⟩) hP hD hS (wM_map ..) (fun H locs hP hD hS => ?_)
                            have hP : va_P G.1 vwCl (wM G m (su τ (64 + 53 * (fS σ e) + ((10 * (fD σ e)) + p)) 10) V σ ns x len B) H := hP
                            have hD : va_D (zA (wM G m σ V ζ ns x len B)) (wM G m (su τ (64 + 53 * (fS σ e) + ((10 * (fD σ e)) + p)) 10) V σ ns x len B) := hD
                            refine lv_iinc (v := nI (p + 1)) (lv' := [(7, .int (nI (p + 1))), (6, .int (nI (c + 1))), (9, .int (nI 10)), (8, .int (nI (sgn τ (fS σ e) (fD σ e) p))), (0, .ref (m 0)), (1, .int (nI e)), (2, .int (nI (sS σ e))), (3, .int (nI 0)), (4, .int (nI (fS σ e))), (5, .int (nI (fD σ e)))]) hx hb dX5_settle_197 hl (k := 9) rfl (zinc1 _) (by decide) rfl (fun ls hl => ?_)
                            refine lv_goto (tgt := 100) hx hb dX5_settle_200 (by decide) ?_
                            exact ih100 (p + 1) (su τ (64 + 53 * (fS σ e) + ((10 * (fD σ e)) + p)) 10) (c + 1) (by rw [stl, ← hτ]; exact (stS_eq hOτ (k1 := sS σ e) (d1 := sD σ e) (show fS σ e < 36 by omega) (show fD σ e < 4 by omega) (show p < 10 by omega) (nw := 10) (Or.inl ⟨hva, rfl⟩)).1) (by unfold stc at hxc ⊢; rw [sm, ← hxc, ← hτ, if_neg (fun z => h170 ((stS_eq hOτ (k1 := sS σ e) (d1 := sD σ e) (show fS σ e < 36 by omega) (show fD σ e < 4 by omega) (show p < 10 by omega) (nw := 10) (Or.inl ⟨hva, rfl⟩)).2.mpr z))]) (fun j hj => by rcases Nat.lt_succ_iff_lt_or_eq.mp hj with q | q; exact hz j q; (rw [q, ← hτ]; exact decide_eq_false (fun z => z.2.1 hva))) (hOτ.su_sg (by omega) (by omega)) (by omega) (by omega) (by omega) _ (lv_sub hl [4, 5, 6, 7, 8, 9, 1, 0] rfl) _ _ (hP) (hD) hS
                          · skip
                            have h170 : 10 = (sgn τ (fS σ e) (fD σ e) p) := (nI_eq (by omega) (by omega)).mp h170
                            refine lv_iconst (v := nI 0) hx hb dX5_settle_173 (by decide) ?_
                            refine lv_goto (tgt := 178) hx hb dX5_settle_174 (by decide) ?_
                            refine lv_iadd hx hb dX5_settle_178 ?_
                            refine lv_topi (nm_r (e' := nI (c + 0)) (nI_add _ _) ?_)
                            refine lv_istore (lv' := [(6, .int (nI (c + 0))), (9, .int (nI 10)), (8, .int (nI (sgn τ (fS σ e) (fD σ e) p))), (0, .ref (m 0)), (1, .int (nI e)), (2, .int (nI (sS σ e))), (3, .int (nI 0)), (4, .int (nI (fS σ e))), (5, .int (nI (fD σ e))), (7, .int (nI p))]) hx hb dX5_settle_179 hl (by decide) rfl (fun ls hl => ?_)
                            refine lv_aload_n hx hb dX5_settle_181 rfl (lv_at hl 3 rfl) ?_
                            refine lv_iload hx hb dX5_settle_182 (lv_at hl 7 rfl) ?_
                            refine lv_bipush (v := nI 10) hx hb dX5_settle_184 (by decide) ?_
                            refine lv_iload hx hb dX5_settle_186 (lv_at hl 8 rfl) ?_
                            refine lv_imul hx hb dX5_settle_188 ?_
                            refine lv_topi (nm_r (e' := nI (10 * (fD σ e))) (pk_mul _ _) ?_)
                            refine lv_iload hx hb dX5_settle_189 (lv_at hl 9 rfl) ?_
                            refine lv_iadd hx hb dX5_settle_191 ?_
                            refine lv_topi (nm_r (e' := nI ((10 * (fD σ e)) + p)) (nI_add _ _) ?_)
                            refine lv_iload hx hb dX5_settle_192 (lv_at hl 1 rfl) ?_
                            refine zwrWv (G := G) (wc := (wM G m τ V σ ns x len B)) (wc' := (wM G m (su τ (64 + 53 * (fS σ e) + ((10 * (fD σ e)) + p)) 10) V σ ns x len B)) (va_runV (As := [.int (nI (fS σ e)), .int (nI ((10 * (fD σ e)) + p)), .int (nI 10)]) (rest := []) ⟨hx, hb, hml, hown, hts⟩ (kX5_puts l G m τ V σ ns x len B (fS σ e) ((10 * (fD σ e)) + p) 10 (by omega) (by omega) (by omega) (zD_any hD)) (cwV 3 hts gX5_settle_X5_puts rfl rfl rfl (by decide +kernel) ⟨Nat.le_of_ble_eq_true rfl, Nat.le_of_ble_eq_true rfl⟩) (zPreV hG (va_recv (q0 := 0) (ci := 5) hG.1 hP rfl rfl) (hP)) rfl rfl hl.1 rfl (lv_room (Nat.le_of_ble_eq_true rfl)) dX5_settle_194 ⟨Nat.le_of_ble_eq_true rfl, Nat.le_of_ble_eq_true rfl⟩) hP hD hS (wM_map ..) (fun H locs hP hD hS => ?_)
                            have hP : va_P G.1 vwCl (wM G m (su τ (64 + 53 * (fS σ e) + ((10 * (fD σ e)) + p)) 10) V σ ns x len B) H := hP
                            have hD : va_D (zA (wM G m σ V ζ ns x len B)) (wM G m (su τ (64 + 53 * (fS σ e) + ((10 * (fD σ e)) + p)) 10) V σ ns x len B) := hD
                            refine lv_iinc (v := nI (p + 1)) (lv' := [(7, .int (nI (p + 1))), (6, .int (nI (c + 0))), (9, .int (nI 10)), (8, .int (nI (sgn τ (fS σ e) (fD σ e) p))), (0, .ref (m 0)), (1, .int (nI e)), (2, .int (nI (sS σ e))), (3, .int (nI 0)), (4, .int (nI (fS σ e))), (5, .int (nI (fD σ e)))]) hx hb dX5_settle_197 hl (k := 9) rfl (zinc1 _) (by decide) rfl (fun ls hl => ?_)
                            refine lv_goto (tgt := 100) hx hb dX5_settle_200 (by decide) ?_
                            exact ih100 (p + 1) (su τ (64 + 53 * (fS σ e) + ((10 * (fD σ e)) + p)) 10) (c + 0) (by rw [stl, ← hτ]; exact (stS_eq hOτ (k1 := sS σ e) (d1 := sD σ e) (show fS σ e < 36 by omega) (show fD σ e < 4 by omega) (show p < 10 by omega) (nw := 10) (Or.inl ⟨hva, rfl⟩)).1) (by unfold stc at hxc ⊢; rw [sm, ← hxc, ← hτ, if_pos ((stS_eq hOτ (k1 := sS σ e) (d1 := sD σ e) (show fS σ e < 36 by omega) (show fD σ e < 4 by omega) (show p < 10 by omega) (nw := 10) (Or.inl ⟨hva, rfl⟩)).2.mp h170)]) (fun j hj => by rcases Nat.lt_succ_iff_lt_or_eq.mp hj with q | q; exact hz j q; (rw [q, ← hτ]; exact decide_eq_false (fun z => z.2.1 hva))) (hOτ.su_sg (by omega) (by omega)) (by omega) (by omega) (by omega) _ (lv_sub hl [4, 5, 6, 7, 8, 9, 1, 0] rfl) _ _ (hP) (hD) hS
                        · skip
                          have h154 : False := (iff_of_false (z_m4 (by omega)) id).mp h154
                          exact absurd h154 id
                      · skip
                        refine zrdV (As := [.int (nI (fS σ e)), .int (nI (sgn τ (fS σ e) (fD σ e) p)), .int (nI (mns τ (sS σ e) (sD σ e) p))]) ⟨hx, hb, hml, hown, hts⟩ (kX5_signFor_s l G m τ V σ ns x len B (fS σ e) (sgn τ (fS σ e) (fD σ e) p) (mns τ (sS σ e) (sD σ e) p) (hOτ) (by omega) (hvb.2.1) (hvb.1) (hvb.2.2)) (cwV 3 hts gX5_settle_X5_signFor rfl rfl rfl (by decide +kernel) ⟨Nat.le_of_ble_eq_true rfl, Nat.le_of_ble_eq_true rfl⟩) hG (va_recv (q0 := 0) (ci := 5) hG.1 hP rfl rfl) (hP) rfl rfl hl.1 dX5_settle_145 (Nat.le_of_ble_eq_true rfl) ⟨Nat.le_of_ble_eq_true rfl, Nat.le_of_ble_eq_true rfl⟩ ?_
                        refine lv_istore (lv' := [(9, .int (nI (sgn τ (fS σ e) (fD σ e) p))), (8, .int (nI (sgn τ (fS σ e) (fD σ e) p))), (0, .ref (m 0)), (1, .int (nI e)), (2, .int (nI (sS σ e))), (3, .int (nI 0)), (4, .int (nI (fS σ e))), (5, .int (nI (fD σ e))), (6, .int (nI c)), (7, .int (nI p))]) hx hb dX5_settle_148 hl (by decide) rfl (fun ls hl => ?_)
                        refine lv_iload hx hb dX5_settle_150 (lv_at hl 0 rfl) ?_
                        refine lv_bipush (v := (-4)) hx hb dX5_settle_152 (by decide) ?_
                        refine lv_icmp_ne (tgt := 164) hx hb dX5_settle_154 (by decide) (fun h154 => ?_) (fun h154 => ?_)
                        · skip
                          have h154 : ¬ (False) := fun q => h154 ((iff_of_false (z_m4 (by omega)) id).mpr q)
                          refine lv_iload hx hb dX5_settle_164 (lv_at hl 8 rfl) ?_
                          refine lv_iload hx hb dX5_settle_166 (lv_at hl 0 rfl) ?_
                          refine lv_iload hx hb dX5_settle_168 (lv_at hl 1 rfl) ?_
                          refine lv_icmp_ne (tgt := 177) hx hb dX5_settle_170 (by decide) (fun h170 => ?_) (fun h170 => ?_)
                          · skip
                            have h170 : ¬ ((sgn τ (fS σ e) (fD σ e) p) = (sgn τ (fS σ e) (fD σ e) p)) := fun q => h170 ((nI_eq (by omega) (by omega)).mpr q)
                            refine lv_iconst (v := nI 1) hx hb dX5_settle_177 (by decide) ?_
                            refine lv_iadd hx hb dX5_settle_178 ?_
                            refine lv_topi (nm_r (e' := nI (c + 1)) (nI_add _ _) ?_)
                            refine lv_istore (lv' := [(6, .int (nI (c + 1))), (9, .int (nI (sgn τ (fS σ e) (fD σ e) p))), (8, .int (nI (sgn τ (fS σ e) (fD σ e) p))), (0, .ref (m 0)), (1, .int (nI e)), (2, .int (nI (sS σ e))), (3, .int (nI 0)), (4, .int (nI (fS σ e))), (5, .int (nI (fD σ e))), (7, .int (nI p))]) hx hb dX5_settle_179 hl (by decide) rfl (fun ls hl => ?_)
                            refine lv_aload_n hx hb dX5_settle_181 rfl (lv_at hl 3 rfl) ?_
                            refine lv_iload hx hb dX5_settle_182 (lv_at hl 7 rfl) ?_
                            refine lv_bipush (v := nI 10) hx hb dX5_settle_184 (by decide) ?_
                            refine lv_iload hx hb dX5_settle_186 (lv_at hl 8 rfl) ?_
                            refine lv_imul hx hb dX5_settle_188 ?_
                            refine lv_topi (nm_r (e' := nI (10 * (fD σ e))) (pk_mul _ _) ?_)
                            refine lv_iload hx hb dX5_settle_189 (lv_at hl 9 rfl) ?_
                            refine lv_iadd hx hb dX5_settle_191 ?_
                            refine lv_topi (nm_r (e' := nI ((10 * (fD σ e)) + p)) (nI_add _ _) ?_)
                            refine lv_iload hx hb dX5_settle_192 (lv_at hl 1 rfl) ?_
                            refine zwrWv (G := G) (wc := (wM G m τ V σ ns x len B)) (wc' := (wM G m (su τ (64 + 53 * (fS σ e) + ((10 * (fD σ e)) + p)) (sgn τ (fS σ e) (fD σ e) p)) V σ ns x len B)) (va_runV (As := [.int (nI (fS σ e)), .int (nI ((10 * (fD σ e)) + p)), .int (nI (sgn τ (fS σ e) (fD σ e) p))]) (rest := []) ⟨hx, hb, hml, hown, hts⟩ (kX5_puts l G m τ V σ ns x len B (fS σ e) ((10 * (fD σ e)) + p) (sgn τ (fS σ e) (fD σ e) p) (by omega) (by omega) (by omega) (zD_any hD)) (cwV 3 hts gX5_settle_X5_puts rfl rfl rfl (by decide +kernel) ⟨Nat.le_of_ble_eq_true rfl, Nat.le_of_ble_eq_true rfl⟩) (zPreV hG (va_recv (q0 := 0) (ci := 5) hG.1 hP rfl rfl) (hP)) rfl rfl hl.1 rfl (lv_room (Nat.le_of_ble_eq_true rfl)) dX5_settle_194 ⟨Nat.le_of_ble_eq_true rfl, Nat.le_of_ble_eq_true rfl⟩) hP hD hS (wM_map ..) (fun H locs hP hD hS => ?_)
                            have hP : va_P G.1 vwCl (wM G m (su τ (64 + 53 * (fS σ e) + ((10 * (fD σ e)) + p)) (sgn τ (fS σ e) (fD σ e) p)) V σ ns x len B) H := hP
                            have hD : va_D (zA (wM G m σ V ζ ns x len B)) (wM G m (su τ (64 + 53 * (fS σ e) + ((10 * (fD σ e)) + p)) (sgn τ (fS σ e) (fD σ e) p)) V σ ns x len B) := hD
                            refine lv_iinc (v := nI (p + 1)) (lv' := [(7, .int (nI (p + 1))), (6, .int (nI (c + 1))), (9, .int (nI (sgn τ (fS σ e) (fD σ e) p))), (8, .int (nI (sgn τ (fS σ e) (fD σ e) p))), (0, .ref (m 0)), (1, .int (nI e)), (2, .int (nI (sS σ e))), (3, .int (nI 0)), (4, .int (nI (fS σ e))), (5, .int (nI (fD σ e)))]) hx hb dX5_settle_197 hl (k := 9) rfl (zinc1 _) (by decide) rfl (fun ls hl => ?_)
                            refine lv_goto (tgt := 100) hx hb dX5_settle_200 (by decide) ?_
                            exact ih100 (p + 1) (su τ (64 + 53 * (fS σ e) + ((10 * (fD σ e)) + p)) (sgn τ (fS σ e) (fD σ e) p)) (c + 1) (by rw [stl, ← hτ]; exact (stS_eq hOτ (k1 := sS σ e) (d1 := sD σ e) (show fS σ e < 36 by omega) (show fD σ e < 4 by omega) (show p < 10 by omega) (nw := (sgn τ (fS σ e) (fD σ e) p)) (Or.inr (Or.inl ⟨by omega, hvb.2.1, hvb.2.2, rfl⟩))).1) (by unfold stc at hxc ⊢; rw [sm, ← hxc, ← hτ, if_neg (fun z => h170 ((stS_eq hOτ (k1 := sS σ e) (d1 := sD σ e) (show fS σ e < 36 by omega) (show fD σ e < 4 by omega) (show p < 10 by omega) (nw := (sgn τ (fS σ e) (fD σ e) p)) (Or.inr (Or.inl ⟨by omega, hvb.2.1, hvb.2.2, rfl⟩))).2.mpr z))]) (fun j hj => by rcases Nat.lt_succ_iff_lt_or_eq.mp hj with q | q; exact hz j q; (rw [q, ← hτ]; exact decide_eq_false (fun z => z.1 ((stS_eq hOτ (k1 := sS σ e) (d1 := sD σ e) (show fS σ e < 36 by omega) (show fD σ e < 4 by omega) (show p < 10 by omega) (nw := (sgn τ (fS σ e) (fD σ e) p)) (Or.inr (Or.inl ⟨by omega, hvb.2.1, hvb.2.2, rfl⟩))).2.mp rfl)))) (hOτ.su_sg (by omega) (by omega)) (by omega) (by omega) (by omega) _ (lv_sub hl [4, 5, 6, 7, 8, 9, 1, 0] rfl) _ _ (hP) (hD) hS
                          · skip
                            have h170 : (sgn τ (fS σ e) (fD σ e) p) = (sgn τ (fS σ e) (fD σ e) p) := (nI_eq (by omega) (by omega)).mp h170
                            refine lv_iconst (v := nI 0) hx hb dX5_settle_173 (by decide) ?_
                            refine lv_goto (tgt := 178) hx hb dX5_settle_174 (by decide) ?_
                            refine lv_iadd hx hb dX5_settle_178 ?_
                            refine lv_topi (nm_r (e' := nI (c + 0)) (nI_add _ _) ?_)
                            refine lv_istore (lv' := [(6, .int (nI (c + 0))), (9, .int (nI (sgn τ (fS σ e) (fD σ e) p))), (8, .int (nI (sgn τ (fS σ e) (fD σ e) p))), (0, .ref (m 0)), (1, .int (nI e)), (2, .int (nI (sS σ e))), (3, .int (nI 0)), (4, .int (nI (fS σ e))), (5, .int (nI (fD σ e))), (7, .int (nI p))]) hx hb dX5_settle_179 hl (by decide) rfl (fun ls hl => ?_)
                            refine lv_aload_n hx hb dX5_settle_181 rfl (lv_at hl 3 rfl) ?_
                            refine lv_iload hx hb dX5_settle_182 (lv_at hl 7 rfl) ?_
                            refine lv_bipush (v := nI 10) hx hb dX5_settle_184 (by decide) ?_
                            refine lv_iload hx hb dX5_settle_186 (lv_at hl 8 rfl) ?_
                            refine lv_imul hx hb dX5_settle_188 ?_
                            refine lv_topi (nm_r (e' := nI (10 * (fD σ e))) (pk_mul _ _) ?_)
                            refine lv_iload hx hb dX5_settle_189 (lv_at hl 9 rfl) ?_
                            refine lv_iadd hx hb dX5_settle_191 ?_
                            refine lv_topi (nm_r (e' := nI ((10 * (fD σ e)) + p)) (nI_add _ _) ?_)
                            refine lv_iload hx hb dX5_settle_192 (lv_at hl 1 rfl) ?_
                            refine zwrWv (G := G) (wc := (wM G m τ V σ ns x len B)) (wc' := (wM G m (su τ (64 + 53 * (fS σ e) + ((10 * (fD σ e)) + p)) (sgn τ (fS σ e) (fD σ e) p)) V σ ns x len B)) (va_runV (As := [.int (nI (fS σ e)), .int (nI ((10 * (fD σ e)) + p)), .int (nI (sgn τ (fS σ e) (fD σ e) p))]) (rest := []) ⟨hx, hb, hml, hown, hts⟩ (kX5_puts l G m τ V σ ns x len B (fS σ e) ((10 * (fD σ e)) + p) (sgn τ (fS σ e) (fD σ e) p) (by omega) (by omega) (by omega) (zD_any hD)) (cwV 3 hts gX5_settle_X5_puts rfl rfl rfl (by decide +kernel) ⟨Nat.le_of_ble_eq_true rfl, Nat.le_of_ble_eq_true rfl⟩) (zPreV hG (va_recv (q0 := 0) (ci := 5) hG.1 hP rfl rfl) (hP)) rfl rfl hl.1 rfl (lv_room (Nat.le_of_ble_eq_true rfl)) dX5_settle_194 ⟨Nat.le_of_ble_eq_true rfl, Nat.le_of_ble_eq_true rfl⟩) hP hD hS (wM_map ..) (fun H locs hP hD hS => ?_)
                            have hP : va_P G.1 vwCl (wM G m (su τ (64 + 53 * (fS σ e) + ((10 * (fD σ e)) + p)) (sgn τ (fS σ e) (fD σ e) p)) V σ ns x len B) H := hP
                            have hD : va_D (zA (wM G m σ V ζ ns x len B)) (wM G m (su τ (64 + 53 * (fS σ e) + ((10 * (fD σ e)) + p)) (sgn τ (fS σ e) (fD σ e) p)) V σ ns x len B) := hD
                            refine lv_iinc (v := nI (p + 1)) (lv' := [(7, .int (nI (p + 1))), (6, .int (nI (c + 0))), (9, .int (nI (sgn τ (fS σ e) (fD σ e) p))), (8, .int (nI (sgn τ (fS σ e) (fD σ e) p))), (0, .ref (m 0)), (1, .int (nI e)), (2, .int (nI (sS σ e))), (3, .int (nI 0)), (4, .int (nI (fS σ e))), (5, .int (nI (fD σ e)))]) hx hb dX5_settle_197 hl (k := 9) rfl (zinc1 _) (by decide) rfl (fun ls hl => ?_)
                            refine lv_goto (tgt := 100) hx hb dX5_settle_200 (by decide) ?_
                            exact ih100 (p + 1) (su τ (64 + 53 * (fS σ e) + ((10 * (fD σ e)) + p)) (sgn τ (fS σ e) (fD σ e) p)) (c + 0) (by rw [stl, ← hτ]; exact (stS_eq hOτ (k1 := sS σ e) (d1 := sD σ e) (show fS σ e < 36 by omega) (show fD σ e < 4 by omega) (show p < 10 by omega) (nw := (sgn τ (fS σ e) (fD σ e) p)) (Or.inr (Or.inl ⟨by omega, hvb.2.1, hvb.2.2, rfl⟩))).1) (by unfold stc at hxc ⊢; rw [sm, ← hxc, ← hτ, if_pos ((stS_eq hOτ (k1 := sS σ e) (d1 := sD σ e) (show fS σ e < 36 by omega) (show fD σ e < 4 by omega) (show p < 10 by omega) (nw := (sgn τ (fS σ e) (fD σ e) p)) (Or.inr (Or.inl ⟨by omega, hvb.2.1, hvb.2.2, rfl⟩))).2.mp h170)]) (fun j hj => by rcases Nat.lt_succ_iff_lt_or_eq.mp hj with q | q; exact hz j q; (rw [q, ← hτ]; exact decide_eq_false (fun z => z.1 ((stS_eq hOτ (k1 := sS σ e) (d1 := sD σ e) (show fS σ e < 36 by omega) (show fD σ e < 4 by omega) (show p < 10 by omega) (nw := (sgn τ (fS σ e) (fD σ e) p)) (Or.inr (Or.inl ⟨by omega, hvb.2.1, hvb.2.2, rfl⟩))).2.mp rfl)))) (hOτ.su_sg (by omega) (by omega)) (by omega) (by omega) (by omega) _ (lv_sub hl [4, 5, 6, 7, 8, 9, 1, 0] rfl) _ _ (hP) (hD) hS
                        · skip
                          have h154 : False := (iff_of_false (z_m4 (by omega)) id).mp h154
                          exact absurd h154 id
                      · skip
                        refine zrdV (As := [.int (nI (fS σ e)), .int (nI (sgn τ (fS σ e) (fD σ e) p)), .int (nI (mns τ (sS σ e) (sD σ e) p))]) ⟨hx, hb, hml, hown, hts⟩ (kX5_signFor_l l G m τ V σ ns x len B (fS σ e) (sgn τ (fS σ e) (fD σ e) p) (mns τ (sS σ e) (sD σ e) p) (hOτ) (by omega) (hs10) (hvb.1) (hvb.2)) (cwV 3 hts gX5_settle_X5_signFor rfl rfl rfl (by decide +kernel) ⟨Nat.le_of_ble_eq_true rfl, Nat.le_of_ble_eq_true rfl⟩) hG (va_recv (q0 := 0) (ci := 5) hG.1 hP rfl rfl) (hP) rfl rfl hl.1 dX5_settle_145 (Nat.le_of_ble_eq_true rfl) ⟨Nat.le_of_ble_eq_true rfl, Nat.le_of_ble_eq_true rfl⟩ ?_
                        have hf145_0 := lws_le τ ((fS σ e)) ((mns τ (sS σ e) (sD σ e) p))
                        refine lv_istore (lv' := [(9, .int (zc 10 (lws τ (fS σ e) (mns τ (sS σ e) (sD σ e) p)))), (8, .int (nI (sgn τ (fS σ e) (fD σ e) p))), (0, .ref (m 0)), (1, .int (nI e)), (2, .int (nI (sS σ e))), (3, .int (nI 0)), (4, .int (nI (fS σ e))), (5, .int (nI (fD σ e))), (6, .int (nI c)), (7, .int (nI p))]) hx hb dX5_settle_148 hl (by decide) rfl (fun ls hl => ?_)
                        refine lv_iload hx hb dX5_settle_150 (lv_at hl 0 rfl) ?_
                        refine lv_bipush (v := (-4)) hx hb dX5_settle_152 (by decide) ?_
                        refine lv_icmp_ne (tgt := 164) hx hb dX5_settle_154 (by decide) (fun h154 => ?_) (fun h154 => ?_)
                        · skip
                          have h154 : ¬ (lws τ (fS σ e) (mns τ (sS σ e) (sD σ e) p) = 10) := fun q => h154 ((zc_m4 (by omega)).mpr q)
                          rw [show zc 10 (lws τ (fS σ e) (mns τ (sS σ e) (sD σ e) p)) = nI (lws τ (fS σ e) (mns τ (sS σ e) (sD σ e) p)) from zc_n h154] at hl
                          refine lv_iload hx hb dX5_settle_164 (lv_at hl 8 rfl) ?_
                          refine lv_iload hx hb dX5_settle_166 (lv_at hl 0 rfl) ?_
                          refine lv_iload hx hb dX5_settle_168 (lv_at hl 1 rfl) ?_
                          refine lv_icmp_ne (tgt := 177) hx hb dX5_settle_170 (by decide) (fun h170 => ?_) (fun h170 => ?_)
                          · skip
                            have h170 : ¬ ((lws τ (fS σ e) (mns τ (sS σ e) (sD σ e) p)) = (sgn τ (fS σ e) (fD σ e) p)) := fun q => h170 ((nI_eq (by omega) (by omega)).mpr q)
                            refine lv_iconst (v := nI 1) hx hb dX5_settle_177 (by decide) ?_
                            refine lv_iadd hx hb dX5_settle_178 ?_
                            refine lv_topi (nm_r (e' := nI (c + 1)) (nI_add _ _) ?_)
                            refine lv_istore (lv' := [(6, .int (nI (c + 1))), (9, .int (nI (lws τ (fS σ e) (mns τ (sS σ e) (sD σ e) p)))), (8, .int (nI (sgn τ (fS σ e) (fD σ e) p))), (0, .ref (m 0)), (1, .int (nI e)), (2, .int (nI (sS σ e))), (3, .int (nI 0)), (4, .int (nI (fS σ e))), (5, .int (nI (fD σ e))), (7, .int (nI p))]) hx hb dX5_settle_179 hl (by decide) rfl (fun ls hl => ?_)
                            refine lv_aload_n hx hb dX5_settle_181 rfl (lv_at hl 3 rfl) ?_
                            refine lv_iload hx hb dX5_settle_182 (lv_at hl 7 rfl) ?_
                            refine lv_bipush (v := nI 10) hx hb dX5_settle_184 (by decide) ?_
                            refine lv_iload hx hb dX5_settle_186 (lv_at hl 8 rfl) ?_
                            refine lv_imul hx hb dX5_settle_188 ?_
                            refine lv_topi (nm_r (e' := nI (10 * (fD σ e))) (pk_mul _ _) ?_)
                            refine lv_iload hx hb dX5_settle_189 (lv_at hl 9 rfl) ?_
                            refine lv_iadd hx hb dX5_settle_191 ?_
                            refine lv_topi (nm_r (e' := nI ((10 * (fD σ e)) + p)) (nI_add _ _) ?_)
                            refine lv_iload hx hb dX5_settle_192 (lv_at hl 1 rfl) ?_
                            refine zwrWv (G := G) (wc := (wM G m τ V σ ns x len B)) (wc' := (wM G m (su τ (64 + 53 * (fS σ e) + ((10 * (fD σ e)) + p)) (lws τ (fS σ e) (mns τ (sS σ e) (sD σ e) p))) V σ ns x len B)) (va_runV (As := [.int (nI (fS σ e)), .int (nI ((10 * (fD σ e)) + p)), .int (nI (lws τ (fS σ e) (mns τ (sS σ e) (sD σ e) p)))]) (rest := []) ⟨hx, hb, hml, hown, hts⟩ (kX5_puts l G m τ V σ ns x len B (fS σ e) ((10 * (fD σ e)) + p) (lws τ (fS σ e) (mns τ (sS σ e) (sD σ e) p)) (by omega) (by omega) (by omega) (zD_any hD)) (cwV 3 hts gX5_settle_X5_puts rfl rfl rfl (by decide +kernel) ⟨Nat.le_of_ble_eq_true rfl, Nat.le_of_ble_eq_true rfl⟩) (zPreV hG (va_recv (q0 := 0) (ci := 5) hG.1 hP rfl rfl) (hP)) rfl rfl hl.1 rfl (lv_room (Nat.le_of_ble_eq_true rfl)) dX5_settle_194 ⟨Nat.le_of_ble_eq_true rfl, Nat.le_of_ble_eq_true rfl⟩) hP hD hS (wM_map ..) (fun H locs hP hD hS => ?_)
                            have hP : va_P G.1 vwCl (wM G m (su τ (64 + 53 * (fS σ e) + ((10 * (fD σ e)) + p)) (lws τ (fS σ e) (mns τ (sS σ e) (sD σ e) p))) V σ ns x len B) H := hP
                            have hD : va_D (zA (wM G m σ V ζ ns x len B)) (wM G m (su τ (64 + 53 * (fS σ e) + ((10 * (fD σ e)) + p)) (lws τ (fS σ e) (mns τ (sS σ e) (sD σ e) p))) V σ ns x len B) := hD
                            refine lv_iinc (v := nI (p + 1)) (lv' := [(7, .int (nI (p + 1))), (6, .int (nI (c + 1))), (9, .int (nI (lws τ (fS σ e) (mns τ (sS σ e) (sD σ e) p)))), (8, .int (nI (sgn τ (fS σ e) (fD σ e) p))), (0, .ref (m 0)), (1, .int (nI e)), (2, .int (nI (sS σ e))), (3, .int (nI 0)), (4, .int (nI (fS σ e))), (5, .int (nI (fD σ e)))]) hx hb dX5_settle_197 hl (k := 9) rfl (zinc1 _) (by decide) rfl (fun ls hl => ?_)
                            refine lv_goto (tgt := 100) hx hb dX5_settle_200 (by decide) ?_
                            exact ih100 (p + 1) (su τ (64 + 53 * (fS σ e) + ((10 * (fD σ e)) + p)) (lws τ (fS σ e) (mns τ (sS σ e) (sD σ e) p))) (c + 1) (by rw [stl, ← hτ]; exact (stS_eq hOτ (k1 := sS σ e) (d1 := sD σ e) (show fS σ e < 36 by omega) (show fD σ e < 4 by omega) (show p < 10 by omega) (nw := lws τ (fS σ e) (mns τ (sS σ e) (sD σ e) p)) (Or.inr (Or.inr ⟨by omega, hvb.2, rfl, h154⟩))).1) (by unfold stc at hxc ⊢; rw [sm, ← hxc, ← hτ, if_neg (fun z => h170 ((stS_eq hOτ (k1 := sS σ e) (d1 := sD σ e) (show fS σ e < 36 by omega) (show fD σ e < 4 by omega) (show p < 10 by omega) (nw := lws τ (fS σ e) (mns τ (sS σ e) (sD σ e) p)) (Or.inr (Or.inr ⟨by omega, hvb.2, rfl, h154⟩))).2.mpr z))]) (fun j hj => by rcases Nat.lt_succ_iff_lt_or_eq.mp hj with q | q; exact hz j q; (rw [q, ← hτ]; exact decide_eq_false (fun z => h154 z.2.2))) (hOτ.su_sg (by omega) (by omega)) (by omega) (by omega) (by omega) _ (lv_sub hl [4, 5, 6, 7, 8, 9, 1, 0] rfl) _ _ (hP) (hD) hS
                          · skip
                            have h170 : (lws τ (fS σ e) (mns τ (sS σ e) (sD σ e) p)) = (sgn τ (fS σ e) (fD σ e) p) := (nI_eq (by omega) (by omega)).mp h170
                            refine lv_iconst (v := nI 0) hx hb dX5_settle_173 (by decide) ?_
                            refine lv_goto (tgt := 178) hx hb dX5_settle_174 (by decide) ?_
                            refine lv_iadd hx hb dX5_settle_178 ?_
                            refine lv_topi (nm_r (e' := nI (c + 0)) (nI_add _ _) ?_)
                            refine lv_istore (lv' := [(6, .int (nI (c + 0))), (9, .int (nI (lws τ (fS σ e) (mns τ (sS σ e) (sD σ e) p)))), (8, .int (nI (sgn τ (fS σ e) (fD σ e) p))), (0, .ref (m 0)), (1, .int (nI e)), (2, .int (nI (sS σ e))), (3, .int (nI 0)), (4, .int (nI (fS σ e))), (5, .int (nI (fD σ e))), (7, .int (nI p))]) hx hb dX5_settle_179 hl (by decide) rfl (fun ls hl => ?_)
                            refine lv_aload_n hx hb dX5_settle_181 rfl (lv_at hl 3 rfl) ?_
                            refine lv_iload hx hb dX5_settle_182 (lv_at hl 7 rfl) ?_
                            refine lv_bipush (v := nI 10) hx hb dX5_settle_184 (by decide) ?_
                            refine lv_iload hx hb dX5_settle_186 (lv_at hl 8 rfl) ?_
                            refine lv_imul hx hb dX5_settle_188 ?_
                            refine lv_topi (nm_r (e' := nI (10 * (fD σ e))) (pk_mul _ _) ?_)
                            refine lv_iload hx hb dX5_settle_189 (lv_at hl 9 rfl) ?_
                            refine lv_iadd hx hb dX5_settle_191 ?_
                            refine lv_topi (nm_r (e' := nI ((10 * (fD σ e)) + p)) (nI_add _ _) ?_)
                            refine lv_iload hx hb dX5_settle_192 (lv_at hl 1 rfl) ?_
                            refine zwrWv (G := G) (wc := (wM G m τ V σ ns x len B)) (wc' := (wM G m (su τ (64 + 53 * (fS σ e) + ((10 * (fD σ e)) + p)) (lws τ (fS σ e) (mns τ (sS σ e) (sD σ e) p))) V σ ns x len B)) (va_runV (As := [.int (nI (fS σ e)), .int (nI ((10 * (fD σ e)) + p)), .int (nI (lws τ (fS σ e) (mns τ (sS σ e) (sD σ e) p)))]) (rest := []) ⟨hx, hb, hml, hown, hts⟩ (kX5_puts l G m τ V σ ns x len B (fS σ e) ((10 * (fD σ e)) + p) (lws τ (fS σ e) (mns τ (sS σ e) (sD σ e) p)) (by omega) (by omega) (by omega) (zD_any hD)) (cwV 3 hts gX5_settle_X5_puts rfl rfl rfl (by decide +kernel) ⟨Nat.le_of_ble_eq_true rfl, Nat.le_of_ble_eq_true rfl⟩) (zPreV hG (va_recv (q0 := 0) (ci := 5) hG.1 hP rfl rfl) (hP)) rfl rfl hl.1 rfl (lv_room (Nat.le_of_ble_eq_true rfl)) dX5_settle_194 ⟨Nat.le_of_ble_eq_true rfl, Nat.le_of_ble_eq_true rfl⟩) hP hD hS (wM_map ..) (fun H locs hP hD hS => ?_)
                            have hP : va_P G.1 vwCl (wM G m (su τ (64 + 53 * (fS σ e) + ((10 * (fD σ e)) + p)) (lws τ (fS σ e) (mns τ (sS σ e) (sD σ e) p))) V σ ns x len B) H := hP
                            have hD : va_D (zA (wM G m σ V ζ ns x len B)) (wM G m (su τ (64 + 53 * (fS σ e) + ((10 * (fD σ e)) + p)) (lws τ (fS σ e) (mns τ (sS σ e) (sD σ e) p))) V σ ns x len B) := hD
                            refine lv_iinc (v := nI (p + 1)) (lv' := [(7, .int (nI (p + 1))), (6, .int (nI (c + 0))), (9, .int (nI (lws τ (fS σ e) (mns τ (sS σ e) (sD σ e) p)))), (8, .int (nI (sgn τ (fS σ e) (fD σ e) p))), (0, .ref (m 0)), (1, .int (nI e)), (2, .int (nI (sS σ e))), (3, .int (nI 0)), (4, .int (nI (fS σ e))), (5, .int (nI (fD σ e)))]) hx hb dX5_settle_197 hl (k := 9) rfl (zinc1 _) (by decide) rfl (fun ls hl => ?_)
                            refine lv_goto (tgt := 100) hx hb dX5_settle_200 (by decide) ?_
                            exact ih100 (p + 1) (su τ (64 + 53 * (fS σ e) + ((10 * (fD σ e)) + p)) (lws τ (fS σ e) (mns τ (sS σ e) (sD σ e) p))) (c + 0) (by rw [stl, ← hτ]; exact (stS_eq hOτ (k1 := sS σ e) (d1 := sD σ e) (show fS σ e < 36 by omega) (show fD σ e < 4 by omega) (show p < 10 by omega) (nw := lws τ (fS σ e) (mns τ (sS σ e) (sD σ e) p)) (Or.inr (Or.inr ⟨by omega, hvb.2, rfl, h154⟩))).1) (by unfold stc at hxc ⊢; rw [sm, ← hxc, ← hτ, if_pos ((stS_eq hOτ (k1 := sS σ e) (d1 := sD σ e) (show fS σ e < 36 by omega) (show fD σ e < 4 by omega) (show p < 10 by omega) (nw := lws τ (fS σ e) (mns τ (sS σ e) (sD σ e) p)) (Or.inr (Or.inr ⟨by omega, hvb.2, rfl, h154⟩))).2.mp h170)]) (fun j hj => by rcases Nat.lt_succ_iff_lt_or_eq.mp hj with q | q; exact hz j q; (rw [q, ← hτ]; exact decide_eq_false (fun z => h154 z.2.2))) (hOτ.su_sg (by omega) (by omega)) (by omega) (by omega) (by omega) _ (lv_sub hl [4, 5, 6, 7, 8, 9, 1, 0] rfl) _ _ (hP) (hD) hS
                        · skip
                          have h154 : lws τ (fS σ e) (mns τ (sS σ e) (sD σ e) p) = 10 := (zc_m4 (by omega)).mp h154
                          exfalso; have hB : sbd σ (sS σ e) (sD σ e) (fS σ e) (fD σ e) = p := fst1_at (by omega) hz (by rw [← hτ]; exact decide_eq_true ⟨fun z => by have hm := mns_10 hOτ (show fS σ e < 36 by omega) (show fD σ e < 4 by omega) (show p < 10 by omega); by_cases y : sgn τ (fS σ e) (fD σ e) p = 10; (have := hm.mpr y; omega); (unfold mns at z; rw [if_neg y] at z; exact hvb.2 ⟨by omega, z.symm⟩), by omega, h154⟩); omega
                    · skip
                      have h125 : ¬ (0 = 0) := fun q => h125 ((z_eq0 (by omega)).mpr q)
                      have h125 : 0 < 0 := Nat.pos_of_ne_zero h125
                      exfalso; omega
              exact loop100 11 0 σ 0 (rfl) (rfl) (fun j hj => absurd hj (Nat.not_lt_zero j)) (hO) (by omega) (by omega) (by omega) _ (lv_sub hl [5, 6, 7, 4, 3, 2, 1, 0] rfl) _ _ (hP) (hD) hS
          · skip
            have h48 : ¬ (0 = 0) := fun q => h48 ((z_eq0 (by omega)).mpr q)
            have h48 : 0 < 0 := Nat.pos_of_ne_zero h48
            exfalso; omega
        · skip
          have h38 : (sS σ e) = (fS σ e) := (nI_eq (by omega) (by omega)).mp h38
          exfalso; omega
      · skip
        have h23 : ¬ ((sS σ e) = (sS σ e)) := fun q => h23 ((nI_eq (by omega) (by omega)).mpr q)
        exfalso; omega
set_option maxHeartbeats 4000000 in
set_option maxRecDepth 100000 in
theorem kX5_settle_s_no (l : Launch) (G : zG) (m : Nat → Nat) (σ : Nat → Nat) (V : Nat → Nat → Nat) (ζ : Nat → Nat) (ns : Nat) (x : Nat → Nat) (len : Nat) (B : Nat → Int32) {N : Nat} (e : Nat) (hO : Ok N σ) (hns : ns ≤ 4) (he : e < nE σ) (hbad : sbd σ (sS σ e) (sD σ e) (fS σ e) (fD σ e) < 10) (hd : va_D (fun _ => True) (wM G m σ V ζ ns x len B)) : Met l yX5_settle wsX5_settle (zRm 4 91) (zPc G [.ref (m 0), .int (nI e), .int (nI (sS σ e))] (va_P G.1 vwCl (wM G m σ V ζ ns x len B))) (zQ (zA (wM G m σ V ζ ns x len B)) (some (.int ((-2)))) (va_P G.1 vwCl (wM G m σ V σ ns x len B))) 0 0 (zA (wM G m σ V ζ ns x len B)) := by
  refine zmkWi (w := (wM G m σ V ζ ns x len B)) hd (cc := cX5_settle) (maxL := 10) (by decide) rfl (Nat.le_of_ble_eq_true rfl) ?_
  intro pr en st mi ar bl me cd ls Q hx hb hml hown hts hG hP hl hD hS hret
  have hown : st.vm.findClass RX5 = some mi.cls := hown
  have hl : lv_has ls 10 [(0, .ref (m 0)), (1, .int (nI e)), (2, .int (nI (sS σ e)))] := hl
  have hP : va_P G.1 vwCl (wM G m σ V ζ ns x len B) st.heap := hP
  have hD : va_D (zA (wM G m σ V ζ ns x len B)) (wM G m σ V ζ ns x len B) := hD
  have hc := hO.c
  have hs := hO.lS
  have hr := hO.lR
  have hne := hO.lE
  have hve : 0 ≤ nI e ∧ nI e < nI (nE σ) := z_in he (by omega)
  have hlt : fS σ e < sS σ e := by unfold sS; have := hO.c; split <;> omega
  have hda := fD_lt σ e
  have hdb := sD_lt σ e
  have hstc := stc_le σ (sS σ e) (sD σ e) (fS σ e) (fD σ e) 10
  have hfs := hO.lF he
  refine lv_aload_n hx hb dX5_settle_0 rfl (lv_at hl 0 rfl) ?_
  refine lv_iload_n hx hb dX5_settle_1 rfl (lv_at hl 1 rfl) ?_
  refine zrdV (As := [.int (nI e)]) ⟨hx, hb, hml, hown, hts⟩ (kX5_isEdge l G m σ V ζ ns x len B (nI e) (hO)) (cwV 1 hts gX5_settle_X5_isEdge rfl rfl rfl (by decide +kernel) ⟨Nat.le_of_ble_eq_true rfl, Nat.le_of_ble_eq_true rfl⟩) hG (va_recv (q0 := 0) (ci := 5) hG.1 hP rfl rfl) (hP) rfl rfl hl.1 dX5_settle_2 (Nat.le_of_ble_eq_true rfl) ⟨Nat.le_of_ble_eq_true rfl, Nat.le_of_ble_eq_true rfl⟩ ?_
  refine lv_if_eq (tgt := 26) hx hb dX5_settle_5 (by decide) (fun h5 => ?_) (fun h5 => ?_)
  · skip
    have h5 : ¬ (0 ≤ (nI e) ∧ (nI e) < nI (nE σ)) := (z_b0).mp h5
    exact absurd hve h5
  · skip
    have h5 : ¬ (¬ (0 ≤ (nI e) ∧ (nI e) < nI (nE σ))) := fun q => h5 ((z_b0).mpr q)
    have h5 : 0 ≤ (nI e) ∧ (nI e) < nI (nE σ) := Decidable.of_not_not h5
    refine lv_iload_n hx hb dX5_settle_8 rfl (lv_at hl 2 rfl) ?_
    refine lv_aload_n hx hb dX5_settle_9 rfl (lv_at hl 0 rfl) ?_
    refine lv_iload_n hx hb dX5_settle_10 rfl (lv_at hl 1 rfl) ?_
    refine zrdV (As := [.int (nI e)]) ⟨hx, hb, hml, hown, hts⟩ (kX5_firstOf l G m σ V ζ ns x len B e (hO) (by omega)) (cwV 1 hts gX5_settle_X5_firstOf rfl rfl rfl (by decide +kernel) ⟨Nat.le_of_ble_eq_true rfl, Nat.le_of_ble_eq_true rfl⟩) hG (va_recv (q0 := 0) (ci := 5) hG.1 hP rfl rfl) (hP) rfl rfl hl.1 dX5_settle_11 (Nat.le_of_ble_eq_true rfl) ⟨Nat.le_of_ble_eq_true rfl, Nat.le_of_ble_eq_true rfl⟩ ?_
    have hf11_0 := hO.lF (show e < nE σ by omega)
    refine lv_icmp_eq (tgt := 28) hx hb dX5_settle_14 (by decide) (fun h14 => ?_) (fun h14 => ?_)
    · skip
      have h14 : (sS σ e) = (fS σ e) := (nI_eq (by omega) (by omega)).mp h14
      exfalso; omega
    · skip
      have h14 : ¬ ((sS σ e) = (fS σ e)) := fun q => h14 ((nI_eq (by omega) (by omega)).mpr q)
      refine lv_iload_n hx hb dX5_settle_17 rfl (lv_at hl 2 rfl) ?_
      refine lv_aload_n hx hb dX5_settle_18 rfl (lv_at hl 0 rfl) ?_
      refine lv_iload_n hx hb dX5_settle_19 rfl (lv_at hl 1 rfl) ?_
      refine zrdV (As := [.int (nI e)]) ⟨hx, hb, hml, hown, hts⟩ (kX5_secondOf l G m σ V ζ ns x len B e (hO) (by omega)) (cwV 1 hts gX5_settle_X5_secondOf rfl rfl rfl (by decide +kernel) ⟨Nat.le_of_ble_eq_true rfl, Nat.le_of_ble_eq_true rfl⟩) hG (va_recv (q0 := 0) (ci := 5) hG.1 hP rfl rfl) (hP) rfl rfl hl.1 dX5_settle_20 (Nat.le_of_ble_eq_true rfl) ⟨Nat.le_of_ble_eq_true rfl, Nat.le_of_ble_eq_true rfl⟩ ?_
      have hf20_0 := hO.lF (show e < nE σ by omega)
      refine lv_icmp_eq (tgt := 28) hx hb dX5_settle_23 (by decide) (fun h23 => ?_) (fun h23 => ?_)
      · skip
        have h23 : (sS σ e) = (sS σ e) := (nI_eq (by omega) (by omega)).mp h23
        refine lv_aload_n hx hb dX5_settle_28 rfl (lv_at hl 0 rfl) ?_
        refine zwrWv (G := G) (wc := (wM G m σ V ζ ns x len B)) (wc' := (wM G m σ V σ ns x len B)) (va_runV (As := []) (rest := []) ⟨hx, hb, hml, hown, hts⟩ (kX5_hold l G m σ V ζ ns x len B (zD_any hD)) (cwV 0 hts gX5_settle_X5_hold rfl rfl rfl (by decide +kernel) ⟨Nat.le_of_ble_eq_true rfl, Nat.le_of_ble_eq_true rfl⟩) (zPreV hG (va_recv (q0 := 0) (ci := 5) hG.1 hP rfl rfl) (hP)) rfl rfl hl.1 rfl (lv_room (Nat.le_of_ble_eq_true rfl)) dX5_settle_29 ⟨Nat.le_of_ble_eq_true rfl, Nat.le_of_ble_eq_true rfl⟩) hP hD hS (wM_map ..) (fun H locs hP hD hS => ?_)
        have hP : va_P G.1 vwCl (wM G m σ V σ ns x len B) H := hP
        have hD : va_D (zA (wM G m σ V ζ ns x len B)) (wM G m σ V σ ns x len B) := hD
        refine lv_iload_n hx hb dX5_settle_32 rfl (lv_at hl 2 rfl) ?_
        refine lv_aload_n hx hb dX5_settle_33 rfl (lv_at hl 0 rfl) ?_
        refine lv_iload_n hx hb dX5_settle_34 rfl (lv_at hl 1 rfl) ?_
        refine zrdV (As := [.int (nI e)]) ⟨hx, hb, hml, hown, hts⟩ (kX5_firstOf l G m σ V σ ns x len B e (hO) (by omega)) (cwV 1 hts gX5_settle_X5_firstOf rfl rfl rfl (by decide +kernel) ⟨Nat.le_of_ble_eq_true rfl, Nat.le_of_ble_eq_true rfl⟩) hG (va_recv (q0 := 0) (ci := 5) hG.1 hP rfl rfl) (hP) rfl rfl hl.1 dX5_settle_35 (Nat.le_of_ble_eq_true rfl) ⟨Nat.le_of_ble_eq_true rfl, Nat.le_of_ble_eq_true rfl⟩ ?_
        have hf35_0 := hO.lF (show e < nE σ by omega)
        refine lv_icmp_ne (tgt := 45) hx hb dX5_settle_38 (by decide) (fun h38 => ?_) (fun h38 => ?_)
        · skip
          have h38 : ¬ ((sS σ e) = (fS σ e)) := fun q => h38 ((nI_eq (by omega) (by omega)).mpr q)
          refine lv_iconst (v := nI 0) hx hb dX5_settle_45 (by decide) ?_
          refine lv_istore_n (lv' := [(3, .int (nI 0)), (0, .ref (m 0)), (1, .int (nI e)), (2, .int (nI (sS σ e)))]) hx hb dX5_settle_46 rfl hl (by decide) rfl (fun ls hl => ?_)
          refine lv_iload_n hx hb dX5_settle_47 rfl (lv_at hl 0 rfl) ?_
          refine lv_if_eq (tgt := 59) hx hb dX5_settle_48 (by decide) (fun h48 => ?_) (fun h48 => ?_)
          · skip
            have h48 : 0 = 0 := (z_eq0 (by omega)).mp h48
            refine lv_aload_n hx hb dX5_settle_59 rfl (lv_at hl 1 rfl) ?_
            refine lv_iload_n hx hb dX5_settle_60 rfl (lv_at hl 2 rfl) ?_
            refine zrdV (As := [.int (nI e)]) ⟨hx, hb, hml, hown, hts⟩ (kX5_firstOf l G m σ V σ ns x len B e (hO) (by omega)) (cwV 1 hts gX5_settle_X5_firstOf rfl rfl rfl (by decide +kernel) ⟨Nat.le_of_ble_eq_true rfl, Nat.le_of_ble_eq_true rfl⟩) hG (va_recv (q0 := 0) (ci := 5) hG.1 hP rfl rfl) (hP) rfl rfl hl.1 dX5_settle_61 (Nat.le_of_ble_eq_true rfl) ⟨Nat.le_of_ble_eq_true rfl, Nat.le_of_ble_eq_true rfl⟩ ?_
            have hf61_0 := hO.lF (show e < nE σ by omega)
            refine lv_istore (lv' := [(4, .int (nI (fS σ e))), (3, .int (nI 0)), (0, .ref (m 0)), (1, .int (nI e)), (2, .int (nI (sS σ e)))]) hx hb dX5_settle_64 hl (by decide) rfl (fun ls hl => ?_)
            refine lv_iload_n hx hb dX5_settle_66 rfl (lv_at hl 1 rfl) ?_
            refine lv_if_ne (tgt := 78) hx hb dX5_settle_67 (by decide) (fun h67 => ?_) (fun h67 => ?_)
            · skip
              have h67 : ¬ (0 = 0) := fun q => h67 ((z_eq0 (by omega)).mpr q)
              have h67 : 0 < 0 := Nat.pos_of_ne_zero h67
              exfalso; omega
            · skip
              have h67 : 0 = 0 := (z_eq0 (by omega)).mp h67
              refine lv_aload_n hx hb dX5_settle_70 rfl (lv_at hl 2 rfl) ?_
              refine lv_iload_n hx hb dX5_settle_71 rfl (lv_at hl 3 rfl) ?_
              refine zrdV (As := [.int (nI e)]) ⟨hx, hb, hml, hown, hts⟩ (kX5_sideOf l G m σ V σ ns x len B e (hO) (by omega)) (cwV 1 hts gX5_settle_X5_sideOf rfl rfl rfl (by decide +kernel) ⟨Nat.le_of_ble_eq_true rfl, Nat.le_of_ble_eq_true rfl⟩) hG (va_recv (q0 := 0) (ci := 5) hG.1 hP rfl rfl) (hP) rfl rfl hl.1 dX5_settle_72 (Nat.le_of_ble_eq_true rfl) ⟨Nat.le_of_ble_eq_true rfl, Nat.le_of_ble_eq_true rfl⟩ ?_
              have hf72_0 := fD_lt σ (e)
              refine lv_goto (tgt := 92) hx hb dX5_settle_75 (by decide) ?_
              refine lv_istore (lv' := [(5, .int (nI (fD σ e))), (4, .int (nI (fS σ e))), (3, .int (nI 0)), (0, .ref (m 0)), (1, .int (nI e)), (2, .int (nI (sS σ e)))]) hx hb dX5_settle_92 hl (by decide) rfl (fun ls hl => ?_)
              refine lv_iconst (v := nI 0) hx hb dX5_settle_94 (by decide) ?_
              refine lv_istore (lv' := [(6, .int (nI 0)), (5, .int (nI (fD σ e))), (4, .int (nI (fS σ e))), (3, .int (nI 0)), (0, .ref (m 0)), (1, .int (nI e)), (2, .int (nI (sS σ e)))]) hx hb dX5_settle_95 hl (by decide) rfl (fun ls hl => ?_)
              refine lv_iconst (v := nI 0) hx hb dX5_settle_97 (by decide) ?_
              refine lv_istore (lv' := [(7, .int (nI 0)), (6, .int (nI 0)), (5, .int (nI (fD σ e))), (4, .int (nI (fS σ e))), (3, .int (nI 0)), (0, .ref (m 0)), (1, .int (nI e)), (2, .int (nI (sS σ e)))]) hx hb dX5_settle_98 hl (by decide) rfl (fun ls hl => ?_)
              have loop100 : ∀ (n : Nat) (p : Nat) (τ : Nat → Nat) (c : Nat) (hτ : τ = stl σ (sS σ e) (sD σ e) (fS σ e) (fD σ e) p) (hxc : c = stc σ (sS σ e) (sD σ e) (fS σ e) (fD σ e) p) (hz : ∀ j, j < p → sBad (stl σ (sS σ e) (sD σ e) (fS σ e) (fD σ e) j) (sS σ e) (sD σ e) (fS σ e) (fD σ e) j = false) (hOτ : Ok N τ) (hp : p ≤ 10) (hcp : c ≤ p) (hn : 10 < p + n) (ls : Array Slot) (hl : lv_has ls 10 [(0, .ref (m 0)), (1, .int (nI e)), (2, .int (nI (sS σ e))), (3, .int (nI 0)), (4, .int (nI (fS σ e))), (5, .int (nI (fD σ e))), (6, .int (nI c)), (7, .int (nI p))]) (H : Heap) (locs : List Loc) (hP : va_P G.1 vwCl (wM G m τ V σ ns x len B) H) (hD : va_D (zA (wM G m σ V ζ ns x len B)) (wM G m τ V σ ns x len B)) (hS : va_S (zA (wM G m σ V ζ ns x len B)) st.heap H locs), W pr l en (zRm 4 91) st mi ar bl me cd H locs 0 0 Q (F0 mi 100 ls []) := by
                intro n
                induction n with
                | zero => intro p τ c hτ hxc hz hOτ hp hcp hn ls hl H locs hP hD hS; exfalso; omega
                | succ n ih100 =>
                  intro p τ c hτ hxc hz hOτ hp hcp hn ls hl H locs hP hD hS
                  refine lv_iload hx hb dX5_settle_100 (lv_at hl 7 rfl) ?_
                  refine lv_bipush (v := nI 10) hx hb dX5_settle_102 (by decide) ?_
                  refine lv_icmp_ge (tgt := 203) hx hb dX5_settle_104 (by decide) (fun h104 => ?_) (fun h104 => ?_)
                  · skip
                    have h104 : 10 ≤ p := (nI_leI (by omega) (by omega)).mp h104
                    exfalso; have hB : sbd σ (sS σ e) (sD σ e) (fS σ e) (fD σ e) = 10 := fst1_no (fun j hj => hz j (by omega)); omega
                  · skip
                    have h104 : ¬ (10 ≤ p) := fun q => h104 ((nI_leI (by omega) (by omega)).mpr q)
                    have t0 : τ 0 = σ 0 := by rw [hτ]; exact stl_lo (by omega) p
                    have t1 : τ 1 = σ 1 := by rw [hτ]; exact stl_lo (by omega) p
                    have tE := nE_lo t0 t1
                    have tf := fS_lo t0 t1 e
                    have ts := sS_lo t0 t1 e
                    have tfd := fD_lo t0 t1 e
                    have tsd := sD_lo t0 t1 e
                    refine lv_aload_n hx hb dX5_settle_107 rfl (lv_at hl 0 rfl) ?_
                    refine lv_iload hx hb dX5_settle_108 (lv_at hl 4 rfl) ?_
                    refine lv_iload hx hb dX5_settle_110 (lv_at hl 5 rfl) ?_
                    refine lv_iload hx hb dX5_settle_112 (lv_at hl 7 rfl) ?_
                    refine zrdV (As := [.int (nI (fS σ e)), .int (nI (fD σ e)), .int (nI p)]) ⟨hx, hb, hml, hown, hts⟩ (kX5_signAt l G m τ V σ ns x len B (fS σ e) (fD σ e) p (by omega) (by omega) (by omega)) (cwV 3 hts gX5_settle_X5_signAt rfl rfl rfl (by decide +kernel) ⟨Nat.le_of_ble_eq_true rfl, Nat.le_of_ble_eq_true rfl⟩) hG (va_recv (q0 := 0) (ci := 5) hG.1 hP rfl rfl) (hP) rfl rfl hl.1 dX5_settle_114 (Nat.le_of_ble_eq_true rfl) ⟨Nat.le_of_ble_eq_true rfl, Nat.le_of_ble_eq_true rfl⟩ ?_
                    refine lv_istore (lv' := [(8, .int (nI (sgn τ (fS σ e) (fD σ e) p))), (0, .ref (m 0)), (1, .int (nI e)), (2, .int (nI (sS σ e))), (3, .int (nI 0)), (4, .int (nI (fS σ e))), (5, .int (nI (fD σ e))), (6, .int (nI c)), (7, .int (nI p))]) hx hb dX5_settle_117 hl (by decide) rfl (fun ls hl => ?_)
                    refine lv_aload_n hx hb dX5_settle_119 rfl (lv_at hl 1 rfl) ?_
                    refine lv_iload hx hb dX5_settle_120 (lv_at hl 5 rfl) ?_
                    refine lv_iload hx hb dX5_settle_122 (lv_at hl 0 rfl) ?_
                    refine lv_iload_n hx hb dX5_settle_124 rfl (lv_at hl 4 rfl) ?_
                    refine lv_if_eq (tgt := 138) hx hb dX5_settle_125 (by decide) (fun h125 => ?_) (fun h125 => ?_)
                    · skip
                      have h125 : 0 = 0 := (z_eq0 (by omega)).mp h125
                      refine lv_aload_n hx hb dX5_settle_138 rfl (lv_at hl 1 rfl) ?_
                      refine lv_iload_n hx hb dX5_settle_139 rfl (lv_at hl 2 rfl) ?_
                      refine lv_iload hx hb dX5_settle_140 (lv_at hl 8 rfl) ?_
                      refine zrdV (As := [.int (nI e), .int (nI p)]) ⟨hx, hb, hml, hown, hts⟩ (kX5_secondMeans l G m τ V σ ns x len B e p (hOτ) (by omega) (by omega)) (cwV 2 hts gX5_settle_X5_secondMeans rfl rfl rfl (by decide +kernel) ⟨Nat.le_of_ble_eq_true rfl, Nat.le_of_ble_eq_true rfl⟩) hG (va_recv (q0 := 0) (ci := 5) hG.1 hP rfl rfl) (hP) rfl rfl hl.1 dX5_settle_142 (Nat.le_of_ble_eq_true rfl) ⟨Nat.le_of_ble_eq_true rfl, Nat.le_of_ble_eq_true rfl⟩ ?_
                      have hf142_0 := hOτ.mn (show sS τ (e) < 36 by have := hOτ.lF (show e < nE τ by omega); omega) (sD_lt τ (e)) (show p < 10 by omega)
                      refine lv_topi (nm_r (e' := nI (mns τ (sS σ e) (sD σ e) p)) (by rw [ts, tsd]) ?_)
                      have hv10 := hOτ.mn (show sS σ e < 36 by omega) (show sD σ e < 4 by omega) (show p < 10 by omega)
                      have hs10 := hOτ.sg (show fS σ e < 36 by omega) (show fD σ e < 4 by omega) (show p < 10 by omega)
                      rcases (show mns τ (sS σ e) (sD σ e) p = 10 ∨ (mns τ (sS σ e) (sD σ e) p < 10 ∧ (sgn τ (fS σ e) (fD σ e) p < 10 ∧ mng τ (fS σ e) (sgn τ (fS σ e) (fD σ e) p) = mns τ (sS σ e) (sD σ e) p)) ∨ (mns τ (sS σ e) (sD σ e) p < 10 ∧ ¬ (sgn τ (fS σ e) (fD σ e) p < 10 ∧ mng τ (fS σ e) (sgn τ (fS σ e) (fD σ e) p) = mns τ (sS σ e) (sD σ e) p)) by by_cases z : mns τ (sS σ e) (sD σ e) p = 10; exact Or.inl z; right; by_cases y : sgn τ (fS σ e) (fD σ e) p < 10 ∧ mng τ (fS σ e) (sgn τ (fS σ e) (fD σ e) p) = mns τ (sS σ e) (sD σ e) p; exact Or.inl ⟨by omega, y⟩; exact Or.inr ⟨by omega, y⟩) with hva | hvb | hvb
                      · skip
                        rw [show nI (mns τ (sS σ e) (sD σ e) p) = nI 10 by rw [hva]]
                        refine zrdV (As := [.int (nI (fS σ e)), .int (nI (sgn τ (fS σ e) (fD σ e) p)), .int (nI 10)]) ⟨hx, hb, hml, hown, hts⟩ (kX5_signFor_10 l G m τ V σ ns x len B (fS σ e) (sgn τ (fS σ e) (fD σ e) p)) (cwV 3 hts gX5_settle_X5_signFor rfl rfl rfl (by decide +kernel) ⟨Nat.le_of_ble_eq_true rfl, Nat.le_of_ble_eq_true rfl⟩) hG (va_recv (q0 := 0) (ci := 5) hG.1 hP rfl rfl) (hP) rfl rfl hl.1 dX5_settle_145 (Nat.le_of_ble_eq_true rfl) ⟨Nat.le_of_ble_eq_true rfl, Nat.le_of_ble_eq_true rfl⟩ ?_
                        refine lv_istore (lv' := [(9, .int (nI 10)), (8, .int (nI (sgn τ (fS σ e) (fD σ e) p))), (0, .ref (m 0)), (1, .int (nI e)), (2, .int (nI (sS σ e))), (3, .int (nI 0)), (4, .int (nI (fS σ e))), (5, .int (nI (fD σ e))), (6, .int (nI c)), (7, .int (nI p))]) hx hb dX5_settle_148 hl (by decide) rfl (fun ls hl => ?_)
                        refine lv_iload hx hb dX5_settle_150 (lv_at hl 0 rfl) ?_
                        refine lv_bipush (v := (-4)) hx hb dX5_settle_152 (by decide) ?_
                        refine lv_icmp_ne (tgt := 164) hx hb dX5_settle_154 (by decide) (fun h154 => ?_) (fun h154 => ?_)
                        · skip
                          have h154 : ¬ (False) := fun q => h154 ((iff_of_false (z_m4 (by omega)) id).mpr q)
                          refine lv_iload hx hb dX5_settle_164 (lv_at hl 8 rfl) ?_
                          refine lv_iload hx hb dX5_settle_166 (lv_at hl 0 rfl) ?_
                          refine lv_iload hx hb dX5_settle_168 (lv_at hl 1 rfl) ?_
                          refine lv_icmp_ne (tgt := 177) hx hb dX5_settle_170 (by decide) (fun h170 => ?_) (fun h170 => ?_)
                          · skip
                            have h170 : ¬ (10 = (sgn τ (fS σ e) (fD σ e) p)) := fun q => h170 ((nI_eq (by omega) (by omega)).mpr q)
                            refine lv_iconst (v := nI 1) hx hb dX5_settle_177 (by decide) ?_
                            refine lv_iadd hx hb dX5_settle_178 ?_
                            refine lv_topi (nm_r (e' := nI (c + 1)) (nI_add _ _) ?_)
                            refine lv_istore (lv' := [(6, .int (nI (c + 1))), (9, .int (nI 10)), (8, .int (nI (sgn τ (fS σ e) (fD σ e) p))), (0, .ref (m 0)), (1, .int (nI e)), (2, .int (nI (sS σ e))), (3, .int (nI 0)), (4, .int (nI (fS σ e))), (5, .int (nI (fD σ e))), (7, .int (nI p))]) hx hb dX5_settle_179 hl (by decide) rfl (fun ls hl => ?_)
                            refine lv_aload_n hx hb dX5_settle_181 rfl (lv_at hl 3 rfl) ?_
                            refine lv_iload hx hb dX5_settle_182 (lv_at hl 7 rfl) ?_
                            refine lv_bipush (v := nI 10) hx hb dX5_settle_184 (by decide) ?_
                            refine lv_iload hx hb dX5_settle_186 (lv_at hl 8 rfl) ?_
                            refine lv_imul hx hb dX5_settle_188 ?_
                            refine lv_topi (nm_r (e' := nI (10 * (fD σ e))) (pk_mul _ _) ?_)
                            refine lv_iload hx hb dX5_settle_189 (lv_at hl 9 rfl) ?_
                            refine lv_iadd hx hb dX5_settle_191 ?_
                            refine lv_topi (nm_r (e' := nI ((10 * (fD σ e)) + p)) (nI_add _ _) ?_)
                            refine lv_iload hx hb dX5_settle_192 (lv_at hl 1 rfl) ?_
                            refine zwrWv (G := G) (wc := (wM G m τ V σ ns x len B)) (wc' := (wM G m (su τ (64 + 53 * (fS σ e) + ((10 * (fD σ e)) + p)) 10) V σ ns x len B)) (va_runV (As := [.int (nI (fS σ e)), .int (nI ((10 * (fD σ e)) + p)), .int (nI 10)]) (rest := []) ⟨hx, hb, hml, hown, hts⟩ (kX5_puts l G m τ V σ ns x len B (fS σ e) ((10 * (fD σ e)) + p) 10 (by omega) (by omega) (by omega) (zD_any hD)) (cwV 3 hts gX5_settle_X5_puts rfl rfl rfl (by decide +kernel) ⟨Nat.le_of_ble_eq_true rfl, Nat.le_of_ble_eq_true rfl⟩) (zPreV hG (va_recv (q0 := 0) (ci := 5) hG.1 hP rfl rfl) (hP)) rfl rfl hl.1 rfl (lv_room (Nat.le_of_ble_eq_true rfl)) dX5_settle_194 ⟨Nat.le_of_ble_eq_true rfl, Nat.le_of_ble_eq_true rfl⟩) hP hD hS (wM_map ..) (fun H locs hP hD hS => ?_)
                            have hP : va_P G.1 vwCl (wM G m (su τ (64 + 53 * (fS σ e) + ((10 * (fD σ e)) + p)) 10) V σ ns x len B) H := hP
                            have hD : va_D (zA (wM G m σ V ζ ns x len B)) (wM G m (su τ (64 + 53 * (fS σ e) + ((10 * (fD σ e)) + p)) 10) V σ ns x len B) := hD
                            refine lv_iinc (v := nI (p + 1)) (lv' := [(7, .int (nI (p + 1))), (6, .int (nI (c + 1))), (9, .int (nI 10)), (8, .int (nI (sgn τ (fS σ e) (fD σ e) p))), (0, .ref (m 0)), (1, .int (nI e)), (2, .int (nI (sS σ e))), (3, .int (nI 0)), (4, .int (nI (fS σ e))), (5, .int (nI (fD σ e)))]) hx hb dX5_settle_197 hl (k := 9) rfl (zinc1 _) (by decide) rfl (fun ls hl => ?_)
                            refine lv_goto (tgt := 100) hx hb dX5_settle_200 (by decide) ?_
                            exact ih100 (p + 1) (su τ (64 + 53 * (fS σ e) + ((10 * (fD σ e)) + p)) 10) (c + 1) (by rw [stl, ← hτ]; exact (stS_eq hOτ (k1 := sS σ e) (d1 := sD σ e) (show fS σ e < 36 by omega) (show fD σ e < 4 by omega) (show p < 10 by omega) (nw := 10) (Or.inl ⟨hva, rfl⟩)).1) (by unfold stc at hxc ⊢; rw [sm, ← hxc, ← hτ, if_neg (fun z => h170 ((stS_eq hOτ (k1 := sS σ e) (d1 := sD σ e) (show fS σ e < 36 by omega) (show fD σ e < 4 by omega) (show p < 10 by omega) (nw := 10) (Or.inl ⟨hva, rfl⟩)).2.mpr z))]) (fun j hj => by rcases Nat.lt_succ_iff_lt_or_eq.mp hj with q | q; exact hz j q; (rw [q, ← hτ]; exact decide_eq_false (fun z => z.2.1 hva))) (hOτ.su_sg (by omega) (by omega)) (by omega) (by omega) (by omega) _ (lv_sub hl [4, 5, 6, 7, 8, 9, 1, 0] rfl) _ _ (hP) (hD) hS
                          · skip
                            have h170 : 10 = (sgn τ (fS σ e) (fD σ e) p) := (nI_eq (by omega) (by omega)).mp h170
                            refine lv_iconst (v := nI 0) hx hb dX5_settle_173 (by decide) ?_
                            refine lv_goto (tgt := 178) hx hb dX5_settle_174 (by decide) ?_
                            refine lv_iadd hx hb dX5_settle_178 ?_
                            refine lv_topi (nm_r (e' := nI (c + 0)) (nI_add _ _) ?_)
                            refine lv_istore (lv' := [(6, .int (nI (c + 0))), (9, .int (nI 10)), (8, .int (nI (sgn τ (fS σ e) (fD σ e) p))), (0, .ref (m 0)), (1, .int (nI e)), (2, .int (nI (sS σ e))), (3, .int (nI 0)), (4, .int (nI (fS σ e))), (5, .int (nI (fD σ e))), (7, .int (nI p))]) hx hb dX5_settle_179 hl (by decide) rfl (fun ls hl => ?_)
                            refine lv_aload_n hx hb dX5_settle_181 rfl (lv_at hl 3 rfl) ?_
                            refine lv_iload hx hb dX5_settle_182 (lv_at hl 7 rfl) ?_
                            refine lv_bipush (v := nI 10) hx hb dX5_settle_184 (by decide) ?_
                            refine lv_iload hx hb dX5_settle_186 (lv_at hl 8 rfl) ?_
                            refine lv_imul hx hb dX5_settle_188 ?_
                            refine lv_topi (nm_r (e' := nI (10 * (fD σ e))) (pk_mul _ _) ?_)
                            refine lv_iload hx hb dX5_settle_189 (lv_at hl 9 rfl) ?_
                            refine lv_iadd hx hb dX5_settle_191 ?_
                            refine lv_topi (nm_r (e' := nI ((10 * (fD σ e)) + p)) (nI_add _ _) ?_)
                            refine lv_iload hx hb dX5_settle_192 (lv_at hl 1 rfl) ?_
                            refine zwrWv (G := G) (wc := (wM G m τ V σ ns x len B)) (wc' := (wM G m (su τ (64 + 53 * (fS σ e) + ((10 * (fD σ e)) + p)) 10) V σ ns x len B)) (va_runV (As := [.int (nI (fS σ e)), .int (nI ((10 * (fD σ e)) + p)), .int (nI 10)]) (rest := []) ⟨hx, hb, hml, hown, hts⟩ (kX5_puts l G m τ V σ ns x len B (fS σ e) ((10 * (fD σ e)) + p) 10 (by omega) (by omega) (by omega) (zD_any hD)) (cwV 3 hts gX5_settle_X5_puts rfl rfl rfl (by decide +kernel) ⟨Nat.le_of_ble_eq_true rfl, Nat.le_of_ble_eq_true rfl⟩) (zPreV hG (va_recv (q0 := 0) (ci := 5) hG.1 hP rfl rfl) (hP)) rfl rfl hl.1 rfl (lv_room (Nat.le_of_ble_eq_true rfl)) dX5_settle_194 ⟨Nat.le_of_ble_eq_true rfl, Nat.le_of_ble_eq_true rfl⟩) hP hD hS (wM_map ..) (fun H locs hP hD hS => ?_)
                            have hP : va_P G.1 vwCl (wM G m (su τ (64 + 53 * (fS σ e) + ((10 * (fD σ e)) + p)) 10) V σ ns x len B) H := hP
                            have hD : va_D (zA (wM G m σ V ζ ns x len B)) (wM G m (su τ (64 + 53 * (fS σ e) + ((10 * (fD σ e)) + p)) 10) V σ ns x len B) := hD
                            refine lv_iinc (v := nI (p + 1)) (lv' := [(7, .int (nI (p + 1))), (6, .int (nI (c + 0))), (9, .int (nI 10)), (8, .int (nI (sgn τ (fS σ e) (fD σ e) p))), (0, .ref (m 0)), (1, .int (nI e)), (2, .int (nI (sS σ e))), (3, .int (nI 0)), (4, .int (nI (fS σ e))), (5, .int (nI (fD σ e)))]) hx hb dX5_settle_197 hl (k := 9) rfl (zinc1 _) (by decide) rfl (fun ls hl => ?_)
                            refine lv_goto (tgt := 100) hx hb dX5_settle_200 (by decide) ?_
                            exact ih100 (p + 1) (su τ (64 + 53 * (fS σ e) + ((10 * (fD σ e)) + p)) 10) (c + 0) (by rw [stl, ← hτ]; exact (stS_eq hOτ (k1 := sS σ e) (d1 := sD σ e) (show fS σ e < 36 by omega) (show fD σ e < 4 by omega) (show p < 10 by omega) (nw := 10) (Or.inl ⟨hva, rfl⟩)).1) (by unfold stc at hxc ⊢; rw [sm, ← hxc, ← hτ, if_pos ((stS_eq hOτ (k1 := sS σ e) (d1 := sD σ e) (show fS σ e < 36 by omega) (show fD σ e < 4 by omega) (show p < 10 by omega) (nw := 10) (Or.inl ⟨hva, rfl⟩)).2.mp h170)]) (fun j hj => by rcases Nat.lt_succ_iff_lt_or_eq.mp hj with q | q; exact hz j q; (rw [q, ← hτ]; exact decide_eq_false (fun z => z.2.1 hva))) (hOτ.su_sg (by omega) (by omega)) (by omega) (by omega) (by omega) _ (lv_sub hl [4, 5, 6, 7, 8, 9, 1, 0] rfl) _ _ (hP) (hD) hS
                        · skip
                          have h154 : False := (iff_of_false (z_m4 (by omega)) id).mp h154
                          exact absurd h154 id
                      · skip
                        refine zrdV (As := [.int (nI (fS σ e)), .int (nI (sgn τ (fS σ e) (fD σ e) p)), .int (nI (mns τ (sS σ e) (sD σ e) p))]) ⟨hx, hb, hml, hown, hts⟩ (kX5_signFor_s l G m τ V σ ns x len B (fS σ e) (sgn τ (fS σ e) (fD σ e) p) (mns τ (sS σ e) (sD σ e) p) (hOτ) (by omega) (hvb.2.1) (hvb.1) (hvb.2.2)) (cwV 3 hts gX5_settle_X5_signFor rfl rfl rfl (by decide +kernel) ⟨Nat.le_of_ble_eq_true rfl, Nat.le_of_ble_eq_true rfl⟩) hG (va_recv (q0 := 0) (ci := 5) hG.1 hP rfl rfl) (hP) rfl rfl hl.1 dX5_settle_145 (Nat.le_of_ble_eq_true rfl) ⟨Nat.le_of_ble_eq_true rfl, Nat.le_of_ble_eq_true rfl⟩ ?_
                        refine lv_istore (lv' := [(9, .int (nI (sgn τ (fS σ e) (fD σ e) p))), (8, .int (nI (sgn τ (fS σ e) (fD σ e) p))), (0, .ref (m 0)), (1, .int (nI e)), (2, .int (nI (sS σ e))), (3, .int (nI 0)), (4, .int (nI (fS σ e))), (5, .int (nI (fD σ e))), (6, .int (nI c)), (7, .int (nI p))]) hx hb dX5_settle_148 hl (by decide) rfl (fun ls hl => ?_)
                        refine lv_iload hx hb dX5_settle_150 (lv_at hl 0 rfl) ?_
                        refine lv_bipush (v := (-4)) hx hb dX5_settle_152 (by decide) ?_
                        refine lv_icmp_ne (tgt := 164) hx hb dX5_settle_154 (by decide) (fun h154 => ?_) (fun h154 => ?_)
                        · skip
                          have h154 : ¬ (False) := fun q => h154 ((iff_of_false (z_m4 (by omega)) id).mpr q)
                          refine lv_iload hx hb dX5_settle_164 (lv_at hl 8 rfl) ?_
                          refine lv_iload hx hb dX5_settle_166 (lv_at hl 0 rfl) ?_
                          refine lv_iload hx hb dX5_settle_168 (lv_at hl 1 rfl) ?_
                          refine lv_icmp_ne (tgt := 177) hx hb dX5_settle_170 (by decide) (fun h170 => ?_) (fun h170 => ?_)
                          · skip
                            have h170 : ¬ ((sgn τ (fS σ e) (fD σ e) p) = (sgn τ (fS σ e) (fD σ e) p)) := fun q => h170 ((nI_eq (by omega) (by omega)).mpr q)
                            refine lv_iconst (v := nI 1) hx hb dX5_settle_177 (by decide) ?_
                            refine lv_iadd hx hb dX5_settle_178 ?_
                            refine lv_topi (nm_r (e' := nI (c + 1)) (nI_add _ _) ?_)
                            refine lv_istore (lv' := [(6, .int (nI (c + 1))), (9, .int (nI (sgn τ (fS σ e) (fD σ e) p))), (8, .int (nI (sgn τ (fS σ e) (fD σ e) p))), (0, .ref (m 0)), (1, .int (nI e)), (2, .int (nI (sS σ e))), (3, .int (nI 0)), (4, .int (nI (fS σ e))), (5, .int (nI (fD σ e))), (7, .int (nI p))]) hx hb dX5_settle_179 hl (by decide) rfl (fun ls hl => ?_)
                            refine lv_aload_n hx hb dX5_settle_181 rfl (lv_at hl 3 rfl) ?_
                            refine lv_iload hx hb dX5_settle_182 (lv_at hl 7 rfl) ?_
                            refine lv_bipush (v := nI 10) hx hb dX5_settle_184 (by decide) ?_
                            refine lv_iload hx hb dX5_settle_186 (lv_at hl 8 rfl) ?_
                            refine lv_imul hx hb dX5_settle_188 ?_
                            refine lv_topi (nm_r (e' := nI (10 * (fD σ e))) (pk_mul _ _) ?_)
                            refine lv_iload hx hb dX5_settle_189 (lv_at hl 9 rfl) ?_
                            refine lv_iadd hx hb dX5_settle_191 ?_
                            refine lv_topi (nm_r (e' := nI ((10 * (fD σ e)) + p)) (nI_add _ _) ?_)
                            refine lv_iload hx hb dX5_settle_192 (lv_at hl 1 rfl) ?_
                            refine zwrWv (G := G) (wc := (wM G m τ V σ ns x len B)) (wc' := (wM G m (su τ (64 + 53 * (fS σ e) + ((10 * (fD σ e)) + p)) (sgn τ (fS σ e) (fD σ e) p)) V σ ns x len B)) (va_runV (As := [.int (nI (fS σ e)), .int (nI ((10 * (fD σ e)) + p)), .int (nI (sgn τ (fS σ e) (fD σ e) p))]) (rest := []) ⟨hx, hb, hml, hown, hts⟩ (kX5_puts l G m τ V σ ns x len B (fS σ e) ((10 * (fD σ e)) + p) (sgn τ (fS σ e) (fD σ e) p) (by omega) (by omega) (by omega) (zD_any hD)) (cwV 3 hts gX5_settle_X5_puts rfl rfl rfl (by decide +kernel) ⟨Nat.le_of_ble_eq_true rfl, Nat.le_of_ble_eq_true rfl⟩) (zPreV hG (va_recv (q0 := 0) (ci := 5) hG.1 hP rfl rfl) (hP)) rfl rfl hl.1 rfl (lv_room (Nat.le_of_ble_eq_true rfl)) dX5_settle_194 ⟨Nat.le_of_ble_eq_true rfl, Nat.le_of_ble_eq_true rfl⟩) hP hD hS (wM_map ..) (fun H locs hP hD hS => ?_)
                            have hP : va_P G.1 vwCl (wM G m (su τ (64 + 53 * (fS σ e) + ((10 * (fD σ e)) + p)) (sgn τ (fS σ e) (fD σ e) p)) V σ ns x len B) H := hP
                            have hD : va_D (zA (wM G m σ V ζ ns x len B)) (wM G m (su τ (64 + 53 * (fS σ e) + ((10 * (fD σ e)) + p)) (sgn τ (fS σ e) (fD σ e) p)) V σ ns x len B) := hD
                            refine lv_iinc (v := nI (p + 1)) (lv' := [(7, .int (nI (p + 1))), (6, .int (nI (c + 1))), (9, .int (nI (sgn τ (fS σ e) (fD σ e) p))), (8, .int (nI (sgn τ (fS σ e) (fD σ e) p))), (0, .ref (m 0)), (1, .int (nI e)), (2, .int (nI (sS σ e))), (3, .int (nI 0)), (4, .int (nI (fS σ e))), (5, .int (nI (fD σ e)))]) hx hb dX5_settle_197 hl (k := 9) rfl (zinc1 _) (by decide) rfl (fun ls hl => ?_)
                            refine lv_goto (tgt := 100) hx hb dX5_settle_200 (by decide) ?_
                            exact ih100 (p + 1) (su τ (64 + 53 * (fS σ e) + ((10 * (fD σ e)) + p)) (sgn τ (fS σ e) (fD σ e) p)) (c + 1) (by rw [stl, ← hτ]; exact (stS_eq hOτ (k1 := sS σ e) (d1 := sD σ e) (show fS σ e < 36 by omega) (show fD σ e < 4 by omega) (show p < 10 by omega) (nw := (sgn τ (fS σ e) (fD σ e) p)) (Or.inr (Or.inl ⟨by omega, hvb.2.1, hvb.2.2, rfl⟩))).1) (by unfold stc at hxc ⊢; rw [sm, ← hxc, ← hτ, if_neg (fun z => h170 ((stS_eq hOτ (k1 := sS σ e) (d1 := sD σ e) (show fS σ e < 36 by omega) (show fD σ e < 4 by omega) (show p < 10 by omega) (nw := (sgn τ (fS σ e) (fD σ e) p)) (Or.inr (Or.inl ⟨by omega, hvb.2.1, hvb.2.2, rfl⟩))).2.mpr z))]) (fun j hj => by rcases Nat.lt_succ_iff_lt_or_eq.mp hj with q | q; exact hz j q; (rw [q, ← hτ]; exact decide_eq_false (fun z => z.1 ((stS_eq hOτ (k1 := sS σ e) (d1 := sD σ e) (show fS σ e < 36 by omega) (show fD σ e < 4 by omega) (show p < 10 by omega) (nw := (sgn τ (fS σ e) (fD σ e) p)) (Or.inr (Or.inl ⟨by omega, hvb.2.1, hvb.2.2, rfl⟩))).2.mp rfl)))) (hOτ.su_sg (by omega) (by omega)) (by omega) (by omega) (by omega) _ (lv_sub hl [4, 5, 6, 7, 8, 9, 1, 0] rfl) _ _ (hP) (hD) hS
                          · skip
                            have h170 : (sgn τ (fS σ e) (fD σ e) p) = (sgn τ (fS σ e) (fD σ e) p) := (nI_eq (by omega) (by omega)).mp h170
                            refine lv_iconst (v := nI 0) hx hb dX5_settle_173 (by decide) ?_
                            refine lv_goto (tgt := 178) hx hb dX5_settle_174 (by decide) ?_
                            refine lv_iadd hx hb dX5_settle_178 ?_
                            refine lv_topi (nm_r (e' := nI (c + 0)) (nI_add _ _) ?_)
                            refine lv_istore (lv' := [(6, .int (nI (c + 0))), (9, .int (nI (sgn τ (fS σ e) (fD σ e) p))), (8, .int (nI (sgn τ (fS σ e) (fD σ e) p))), (0, .ref (m 0)), (1, .int (nI e)), (2, .int (nI (sS σ e))), (3, .int (nI 0)), (4, .int (nI (fS σ e))), (5, .int (nI (fD σ e))), (7, .int (nI p))]) hx hb dX5_settle_179 hl (by decide) rfl (fun ls hl => ?_)
                            refine lv_aload_n hx hb dX5_settle_181 rfl (lv_at hl 3 rfl) ?_
                            refine lv_iload hx hb dX5_settle_182 (lv_at hl 7 rfl) ?_
                            refine lv_bipush (v := nI 10) hx hb dX5_settle_184 (by decide) ?_
                            refine lv_iload hx hb dX5_settle_186 (lv_at hl 8 rfl) ?_
                            refine lv_imul hx hb dX5_settle_188 ?_
                            refine lv_topi (nm_r (e' := nI (10 * (fD σ e))) (pk_mul _ _) ?_)
                            refine lv_iload hx hb dX5_settle_189 (lv_at hl 9 rfl) ?_
                            refine lv_iadd hx hb dX5_settle_191 ?_
                            refine lv_topi (nm_r (e' := nI ((10 * (fD σ e)) + p)) (nI_add _ _) ?_)
                            refine lv_iload hx hb dX5_settle_192 (lv_at hl 1 rfl) ?_
                            refine zwrWv (G := G) (wc := (wM G m τ V σ ns x len B)) (wc' := (wM G m (su τ (64 + 53 * (fS σ e) + ((10 * (fD σ e)) + p)) (sgn τ (fS σ e) (fD σ e) p)) V σ ns x len B)) (va_runV (As := [.int (nI (fS σ e)), .int (nI ((10 * (fD σ e)) + p)), .int (nI (sgn τ (fS σ e) (fD σ e) p))]) (rest := []) ⟨hx, hb, hml, hown, hts⟩ (kX5_puts l G m τ V σ ns x len B (fS σ e) ((10 * (fD σ e)) + p) (sgn τ (fS σ e) (fD σ e) p) (by omega) (by omega) (by omega) (zD_any hD)) (cwV 3 hts gX5_settle_X5_puts rfl rfl rfl (by decide +kernel) ⟨Nat.le_of_ble_eq_true rfl, Nat.le_of_ble_eq_true rfl⟩) (zPreV hG (va_recv (q0 := 0) (ci := 5) hG.1 hP rfl rfl) (hP)) rfl rfl hl.1 rfl (lv_room (Nat.le_of_ble_eq_true rfl)) dX5_settle_194 ⟨Nat.le_of_ble_eq_true rfl, Nat.le_of_ble_eq_true rfl⟩) hP hD hS (wM_map ..) (fun H locs hP hD hS => ?_)
                            have hP : va_P G.1 vwCl (wM G m (su τ (64 + 53 * (fS σ e) + ((10 * (fD σ e)) + p)) (sgn τ (fS σ e) (fD σ e) p)) V σ ns x len B) H := hP
                            have hD : va_D (zA (wM G m σ V ζ ns x len B)) (wM G m (su τ (64 + 53 * (fS σ e) + ((10 * (fD σ e)) + p)) (sgn τ (fS σ e) (fD σ e) p)) V σ ns x len B) := hD
                            refine lv_iinc (v := nI (p + 1)) (lv' := [(7, .int (nI (p + 1))), (6, .int (nI (c + 0))), (9, .int (nI (sgn τ (fS σ e) (fD σ e) p))), (8, .int (nI (sgn τ (fS σ e) (fD σ e) p))), (0, .ref (m 0)), (1, .int (nI e)), (2, .int (nI (sS σ e))), (3, .int (nI 0)), (4, .int (nI (fS σ e))), (5, .int (nI (fD σ e)))]) hx hb dX5_settle_197 hl (k := 9) rfl (zinc1 _) (by decide) rfl (fun ls hl => ?_)
                            refine lv_goto (tgt := 100) hx hb dX5_settle_200 (by decide) ?_
                            exact ih100 (p + 1) (su τ (64 + 53 * (fS σ e) + ((10 * (fD σ e)) + p)) (sgn τ (fS σ e) (fD σ e) p)) (c + 0) (by rw [stl, ← hτ]; exact (stS_eq hOτ (k1 := sS σ e) (d1 := sD σ e) (show fS σ e < 36 by omega) (show fD σ e < 4 by omega) (show p < 10 by omega) (nw := (sgn τ (fS σ e) (fD σ e) p)) (Or.inr (Or.inl ⟨by omega, hvb.2.1, hvb.2.2, rfl⟩))).1) (by unfold stc at hxc ⊢; rw [sm, ← hxc, ← hτ, if_pos ((stS_eq hOτ (k1 := sS σ e) (d1 := sD σ e) (show fS σ e < 36 by omega) (show fD σ e < 4 by omega) (show p < 10 by omega) (nw := (sgn τ (fS σ e) (fD σ e) p)) (Or.inr (Or.inl ⟨by omega, hvb.2.1, hvb.2.2, rfl⟩))).2.mp h170)]) (fun j hj => by rcases Nat.lt_succ_iff_lt_or_eq.mp hj with q | q; exact hz j q; (rw [q, ← hτ]; exact decide_eq_false (fun z => z.1 ((stS_eq hOτ (k1 := sS σ e) (d1 := sD σ e) (show fS σ e < 36 by omega) (show fD σ e < 4 by omega) (show p < 10 by omega) (nw := (sgn τ (fS σ e) (fD σ e) p)) (Or.inr (Or.inl ⟨by omega, hvb.2.1, hvb.2.2, rfl⟩))).2.mp rfl)))) (hOτ.su_sg (by omega) (by omega)) (by omega) (by omega) (by omega) _ (lv_sub hl [4, 5, 6, 7, 8, 9, 1, 0] rfl) _ _ (hP) (hD) hS
                        · skip
                          have h154 : False := (iff_of_false (z_m4 (by omega)) id).mp h154
                          exact absurd h154 id
                      · skip
                        refine zrdV (As := [.int (nI (fS σ e)), .int (nI (sgn τ (fS σ e) (fD σ e) p)), .int (nI (mns τ (sS σ e) (sD σ e) p))]) ⟨hx, hb, hml, hown, hts⟩ (kX5_signFor_l l G m τ V σ ns x len B (fS σ e) (sgn τ (fS σ e) (fD σ e) p) (mns τ (sS σ e) (sD σ e) p) (hOτ) (by omega) (hs10) (hvb.1) (hvb.2)) (cwV 3 hts gX5_settle_X5_signFor rfl rfl rfl (by decide +kernel) ⟨Nat.le_of_ble_eq_true rfl, Nat.le_of_ble_eq_true rfl⟩) hG (va_recv (q0 := 0) (ci := 5) hG.1 hP rfl rfl) (hP) rfl rfl hl.1 dX5_settle_145 (Nat.le_of_ble_eq_true rfl) ⟨Nat.le_of_ble_eq_true rfl, Nat.le_of_ble_eq_true rfl⟩ ?_
                        have hf145_0 := lws_le τ ((fS σ e)) ((mns τ (sS σ e) (sD σ e) p))
                        refine lv_istore (lv' := [(9, .int (zc 10 (lws τ (fS σ e) (mns τ (sS σ e) (sD σ e) p)))), (8, .int (nI (sgn τ (fS σ e) (fD σ e) p))), (0, .ref (m 0)), (1, .int (nI e)), (2, .int (nI (sS σ e))), (3, .int (nI 0)), (4, .int (nI (fS σ e))), (5, .int (nI (fD σ e))), (6, .int (nI c)), (7, .int (nI p))]) hx hb dX5_settle_148 hl (by decide) rfl (fun ls hl => ?_)
                        refine lv_iload hx hb dX5_settle_150 (lv_at hl 0 rfl) ?_
                        refine lv_bipush (v := (-4)) hx hb dX5_settle_152 (by decide) ?_
                        refine lv_icmp_ne (tgt := 164) hx hb dX5_settle_154 (by decide) (fun h154 => ?_) (fun h154 => ?_)
                        · skip
                          have h154 : ¬ (lws τ (fS σ e) (mns τ (sS σ e) (sD σ e) p) = 10) := fun q => h154 ((zc_m4 (by omega)).mpr q)
                          rw [show zc 10 (lws τ (fS σ e) (mns τ (sS σ e) (sD σ e) p)) = nI (lws τ (fS σ e) (mns τ (sS σ e) (sD σ e) p)) from zc_n h154] at hl
                          refine lv_iload hx hb dX5_settle_164 (lv_at hl 8 rfl) ?_
                          refine lv_iload hx hb dX5_settle_166 (lv_at hl 0 rfl) ?_
                          refine lv_iload hx hb dX5_settle_168 (lv_at hl 1 rfl) ?_
                          refine lv_icmp_ne (tgt := 177) hx hb dX5_settle_170 (by decide) (fun h170 => ?_) (fun h170 => ?_)
                          · skip
                            have h170 : ¬ ((lws τ (fS σ e) (mns τ (sS σ e) (sD σ e) p)) = (sgn τ (fS σ e) (fD σ e) p)) := fun q => h170 ((nI_eq (by omega) (by omega)).mpr q)
                            refine lv_iconst (v := nI 1) hx hb dX5_settle_177 (by decide) ?_
                            refine lv_iadd hx hb dX5_settle_178 ?_
                            refine lv_topi (nm_r (e' := nI (c + 1)) (nI_add _ _) ?_)
                            refine lv_istore (lv' := [(6, .int (nI (c + 1))), (9, .int (nI (lws τ (fS σ e) (mns τ (sS σ e) (sD σ e) p)))), (8, .int (nI (sgn τ (fS σ e) (fD σ e) p))), (0, .ref (m 0)), (1, .int (nI e)), (2, .int (nI (sS σ e))), (3, .int (nI 0)), (4, .int (nI (fS σ e))), (5, .int (nI (fD σ e))), (7, .int (nI p))]) hx hb dX5_settle_179 hl (by decide) rfl (fun ls hl => ?_)
                            refine lv_aload_n hx hb dX5_settle_181 rfl (lv_at hl 3 rfl) ?_
                            refine lv_iload hx hb dX5_settle_182 (lv_at hl 7 rfl) ?_
                            refine lv_bipush (v := nI 10) hx hb dX5_settle_184 (by decide) ?_
                            refine lv_iload hx hb dX5_settle_186 (lv_at hl 8 rfl) ?_
                            refine lv_imul hx hb dX5_settle_188 ?_
                            refine lv_topi (nm_r (e' := nI (10 * (fD σ e))) (pk_mul _ _) ?_)
                            refine lv_iload hx hb dX5_settle_189 (lv_at hl 9 rfl) ?_
                            refine lv_iadd hx hb dX5_settle_191 ?_
                            refine lv_topi (nm_r (e' := nI ((10 * (fD σ e)) + p)) (nI_add _ _) ?_)
                            refine lv_iload hx hb dX5_settle_192 (lv_at hl 1 rfl) ?_
                            refine zwrWv (G := G) (wc := (wM G m τ V σ ns x len B)) (wc' := (wM G m (su τ (64 + 53 * (fS σ e) + ((10 * (fD σ e)) + p)) (lws τ (fS σ e) (mns τ (sS σ e) (sD σ e) p))) V σ ns x len B)) (va_runV (As := [.int (nI (fS σ e)), .int (nI ((10 * (fD σ e)) + p)), .int (nI (lws τ (fS σ e) (mns τ (sS σ e) (sD σ e) p)))]) (rest := []) ⟨hx, hb, hml, hown, hts⟩ (kX5_puts l G m τ V σ ns x len B (fS σ e) ((10 * (fD σ e)) + p) (lws τ (fS σ e) (mns τ (sS σ e) (sD σ e) p)) (by omega) (by omega) (by omega) (zD_any hD)) (cwV 3 hts gX5_settle_X5_puts rfl rfl rfl (by decide +kernel) ⟨Nat.le_of_ble_eq_true rfl, Nat.le_of_ble_eq_true rfl⟩) (zPreV hG (va_recv (q0 := 0) (ci := 5) hG.1 hP rfl rfl) (hP)) rfl rfl hl.1 rfl (lv_room (Nat.le_of_ble_eq_true rfl)) dX5_settle_194 ⟨Nat.le_of_ble_eq_true rfl, Nat.le_of_ble_eq_true rfl⟩) hP hD hS (wM_map ..) (fun H locs hP hD hS => ?_)
                            have hP : va_P G.1 vwCl (wM G m (su τ (64 + 53 * (fS σ e) + ((10 * (fD σ e)) + p)) (lws τ (fS σ e) (mns τ (sS σ e) (sD σ e) p))) V σ ns x len B) H := hP
                            have hD : va_D (zA (wM G m σ V ζ ns x len B)) (wM G m (su τ (64 + 53 * (fS σ e) + ((10 * (fD σ e)) + p)) (lws τ (fS σ e) (mns τ (sS σ e) (sD σ e) p))) V σ ns x len B) := hD
                            refine lv_iinc (v := nI (p + 1)) (lv' := [(7, .int (nI (p + 1))), (6, .int (nI (c + 1))), (9, .int (nI (lws τ (fS σ e) (mns τ (sS σ e) (sD σ e) p)))), (8, .int (nI (sgn τ (fS σ e) (fD σ e) p))), (0, .ref (m 0)), (1, .int (nI e)), (2, .int (nI (sS σ e))), (3, .int (nI 0)), (4, .int (nI (fS σ e))), (5, .int (nI (fD σ e)))]) hx hb dX5_settle_197 hl (k := 9) rfl (zinc1 _) (by decide) rfl (fun ls hl => ?_)
                            refine lv_goto (tgt := 100) hx hb dX5_settle_200 (by decide) ?_
                            exact ih100 (p + 1) (su τ (64 + 53 * (fS σ e) + ((10 * (fD σ e)) + p)) (lws τ (fS σ e) (mns τ (sS σ e) (sD σ e) p))) (c + 1) (by rw [stl, ← hτ]; exact (stS_eq hOτ (k1 := sS σ e) (d1 := sD σ e) (show fS σ e < 36 by omega) (show fD σ e < 4 by omega) (show p < 10 by omega) (nw := lws τ (fS σ e) (mns τ (sS σ e) (sD σ e) p)) (Or.inr (Or.inr ⟨by omega, hvb.2, rfl, h154⟩))).1) (by unfold stc at hxc ⊢; rw [sm, ← hxc, ← hτ, if_neg (fun z => h170 ((stS_eq hOτ (k1 := sS σ e) (d1 := sD σ e) (show fS σ e < 36 by omega) (show fD σ e < 4 by omega) (show p < 10 by omega) (nw := lws τ (fS σ e) (mns τ (sS σ e) (sD σ e) p)) (Or.inr (Or.inr ⟨by omega, hvb.2, rfl, h154⟩))).2.mpr z))]) (fun j hj => by rcases Nat.lt_succ_iff_lt_or_eq.mp hj with q | q; exact hz j q; (rw [q, ← hτ]; exact decide_eq_false (fun z => h154 z.2.2))) (hOτ.su_sg (by omega) (by omega)) (by omega) (by omega) (by omega) _ (lv_sub hl [4, 5, 6, 7, 8, 9, 1, 0] rfl) _ _ (hP) (hD) hS
                          · skip
                            have h170 : (lws τ (fS σ e) (mns τ (sS σ e) (sD σ e) p)) = (sgn τ (fS σ e) (fD σ e) p) := (nI_eq (by omega) (by omega)).mp h170
                            refine lv_iconst (v := nI 0) hx hb dX5_settle_173 (by decide) ?_
                            refine lv_goto (tgt := 178) hx hb dX5_settle_174 (by decide) ?_
                            refine lv_iadd hx hb dX5_settle_178 ?_
                            refine lv_topi (nm_r (e' := nI (c + 0)) (nI_add _ _) ?_)
                            refine lv_istore (lv' := [(6, .int (nI (c + 0))), (9, .int (nI (lws τ (fS σ e) (mns τ (sS σ e) (sD σ e) p)))), (8, .int (nI (sgn τ (fS σ e) (fD σ e) p))), (0, .ref (m 0)), (1, .int (nI e)), (2, .int (nI (sS σ e))), (3, .int (nI 0)), (4, .int (nI (fS σ e))), (5, .int (nI (fD σ e))), (7, .int (nI p))]) hx hb dX5_settle_179 hl (by decide) rfl (fun ls hl => ?_)
                            refine lv_aload_n hx hb dX5_settle_181 rfl (lv_at hl 3 rfl) ?_
                            refine lv_iload hx hb dX5_settle_182 (lv_at hl 7 rfl) ?_
                            refine lv_bipush (v := nI 10) hx hb dX5_settle_184 (by decide) ?_
                            refine lv_iload hx hb dX5_settle_186 (lv_at hl 8 rfl) ?_
                            refine lv_imul hx hb dX5_settle_188 ?_
                            refine lv_topi (nm_r (e' := nI (10 * (fD σ e))) (pk_mul _ _) ?_)
                            refine lv_iload hx hb dX5_settle_189 (lv_at hl 9 rfl) ?_
                            refine lv_iadd hx hb dX5_settle_191 ?_
                            refine lv_topi (nm_r (e' := nI ((10 * (fD σ e)) + p)) (nI_add _ _) ?_)
                            refine lv_iload hx hb dX5_settle_192 (lv_at hl 1 rfl) ?_
                            refine zwrWv (G := G) (wc := (wM G m τ V σ ns x len B)) (wc' := (wM G m (su τ (64 + 53 * (fS σ e) + ((10 * (fD σ e)) + p)) (lws τ (fS σ e) (mns τ (sS σ e) (sD σ e) p))) V σ ns x len B)) (va_runV (As := [.int (nI (fS σ e)), .int (nI ((10 * (fD σ e)) + p)), .int (nI (lws τ (fS σ e) (mns τ (sS σ e) (sD σ e) p)))]) (rest := []) ⟨hx, hb, hml, hown, hts⟩ (kX5_puts l G m τ V σ ns x len B (fS σ e) ((10 * (fD σ e)) + p) (lws τ (fS σ e) (mns τ (sS σ e) (sD σ e) p)) (by omega) (by omega) (by omega) (zD_any hD)) (cwV 3 hts gX5_settle_X5_puts rfl rfl rfl (by decide +kernel) ⟨Nat.le_of_ble_eq_true rfl, Nat.le_of_ble_eq_true rfl⟩) (zPreV hG (va_recv (q0 := 0) (ci := 5) hG.1 hP rfl rfl) (hP)) rfl rfl hl.1 rfl (lv_room (Nat.le_of_ble_eq_true rfl)) dX5_settle_194 ⟨Nat.le_of_ble_eq_true rfl, Nat.le_of_ble_eq_true rfl⟩) hP hD hS (wM_map ..) (fun H locs hP hD hS => ?_)
                            have hP : va_P G.1 vwCl (wM G m (su τ (64 + 53 * (fS σ e) + ((10 * (fD σ e)) + p)) (lws τ (fS σ e) (mns τ (sS σ e) (sD σ e) p))) V σ ns x len B) H := hP
                            have hD : va_D (zA (wM G m σ V ζ ns x len B)) (wM G m (su τ (64 + 53 * (fS σ e) + ((10 * (fD σ e)) + p)) (lws τ (fS σ e) (mns τ (sS σ e) (sD σ e) p))) V σ ns x len B) := hD
                            refine lv_iinc (v := nI (p + 1)) (lv' := [(7, .int (nI (p + 1))), (6, .int (nI (c + 0))), (9, .int (nI (lws τ (fS σ e) (mns τ (sS σ e) (sD σ e) p)))), (8, .int (nI (sgn τ (fS σ e) (fD σ e) p))), (0, .ref (m 0)), (1, .int (nI e)), (2, .int (nI (sS σ e))), (3, .int (nI 0)), (4, .int (nI (fS σ e))), (5, .int (nI (fD σ e)))]) hx hb dX5_settle_197 hl (k := 9) rfl (zinc1 _) (by decide) rfl (fun ls hl => ?_)
                            refine lv_goto (tgt := 100) hx hb dX5_settle_200 (by decide) ?_
                            exact ih100 (p + 1) (su τ (64 + 53 * (fS σ e) + ((10 * (fD σ e)) + p)) (lws τ (fS σ e) (mns τ (sS σ e) (sD σ e) p))) (c + 0) (by rw [stl, ← hτ]; exact (stS_eq hOτ (k1 := sS σ e) (d1 := sD σ e) (show fS σ e < 36 by omega) (show fD σ e < 4 by omega) (show p < 10 by omega) (nw := lws τ (fS σ e) (mns τ (sS σ e) (sD σ e) p)) (Or.inr (Or.inr ⟨by omega, hvb.2, rfl, h154⟩))).1) (by unfold stc at hxc ⊢; rw [sm, ← hxc, ← hτ, if_pos ((stS_eq hOτ (k1 := sS σ e) (d1 := sD σ e) (show fS σ e < 36 by omega) (show fD σ e < 4 by omega) (show p < 10 by omega) (nw := lws τ (fS σ e) (mns τ (sS σ e) (sD σ e) p)) (Or.inr (Or.inr ⟨by omega, hvb.2, rfl, h154⟩))).2.mp h170)]) (fun j hj => by rcases Nat.lt_succ_iff_lt_or_eq.mp hj with q | q; exact hz j q; (rw [q, ← hτ]; exact decide_eq_false (fun z => h154 z.2.2))) (hOτ.su_sg (by omega) (by omega)) (by omega) (by omega) (by omega) _ (lv_sub hl [4, 5, 6, 7, 8, 9, 1, 0] rfl) _ _ (hP) (hD) hS
                        · skip
                          have h154 : lws τ (fS σ e) (mns τ (sS σ e) (sD σ e) p) = 10 := (zc_m4 (by omega)).mp h154
                          refine lv_aload_n hx hb dX5_settle_157 rfl (lv_at hl 2 rfl) ?_
                          refine zwrWv (G := G) (wc := (wM G m τ V σ ns x len B)) (wc' := (wM G m σ V σ ns x len B)) (va_runV (As := []) (rest := []) ⟨hx, hb, hml, hown, hts⟩ (kX5_restore l G m τ V σ ns x len B (zD_any hD)) (cwV 0 hts gX5_settle_X5_restore rfl rfl rfl (by decide +kernel) ⟨Nat.le_of_ble_eq_true rfl, Nat.le_of_ble_eq_true rfl⟩) (zPreV hG (va_recv (q0 := 0) (ci := 5) hG.1 hP rfl rfl) (hP)) rfl rfl hl.1 rfl (lv_room (Nat.le_of_ble_eq_true rfl)) dX5_settle_158 ⟨Nat.le_of_ble_eq_true rfl, Nat.le_of_ble_eq_true rfl⟩) hP hD hS (wM_map ..) (fun H locs hP hD hS => ?_)
                          have hP : va_P G.1 vwCl (wM G m σ V σ ns x len B) H := hP
                          have hD : va_D (zA (wM G m σ V ζ ns x len B)) (wM G m σ V σ ns x len B) := hD
                          refine lv_bipush (v := (-2)) hx hb dX5_settle_161 (by decide) ?_
                          exact hret _ _ _ _ _ dX5_settle_163 hS (hP) (rfl)
                    · skip
                      have h125 : ¬ (0 = 0) := fun q => h125 ((z_eq0 (by omega)).mpr q)
                      have h125 : 0 < 0 := Nat.pos_of_ne_zero h125
                      exfalso; omega
              exact loop100 11 0 σ 0 (rfl) (rfl) (fun j hj => absurd hj (Nat.not_lt_zero j)) (hO) (by omega) (by omega) (by omega) _ (lv_sub hl [5, 6, 7, 4, 3, 2, 1, 0] rfl) _ _ (hP) (hD) hS
          · skip
            have h48 : ¬ (0 = 0) := fun q => h48 ((z_eq0 (by omega)).mpr q)
            have h48 : 0 < 0 := Nat.pos_of_ne_zero h48
            exfalso; omega
        · skip
          have h38 : (sS σ e) = (fS σ e) := (nI_eq (by omega) (by omega)).mp h38
          exfalso; omega
      · skip
        have h23 : ¬ ((sS σ e) = (sS σ e)) := fun q => h23 ((nI_eq (by omega) (by omega)).mpr q)
        exfalso; omega
