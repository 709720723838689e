/-! texts, item by item -/
abbrev dgt (x : Nat → Nat) (len j : Nat) : Prop := j < len ∧ (48 ≤ x j ∧ x j ≤ 57)
def itm (x : Nat → Nat) (len i : Nat) : Nat :=
  if i = len ∨ sdN (x i) = 4 then 0
  else if dgt x len (i + 1) then
    (if i + 2 < len ∧ x (i + 2) = 45 then (if i + 3 < len ∧ x (i + 3) = 59 then 10 else 3)
     else if i + 2 < len ∧ x (i + 2) = 61 then (if dgt x len (i + 3) then (if i + 4 < len ∧ x (i + 4) = 59 then 11 else 4) else 3) else 2)
  else 1
def itR (v : Nat) : Int32 := if v = 10 then nI 4 else if v = 11 then nI 5 else if v = 0 then (-1) else if v = 1 then (-2) else if v = 2 then (-3) else if v = 3 then (-4) else (-5)
theorem z_s5 (i v : Nat) (c : Int32) (h : -c + -(nI 1) = nI v) : nI i - c - nI 1 = nI (i + v) := by
  rw [Int32.sub_eq_add_neg, Int32.sub_eq_add_neg, Int32.add_assoc, h, nI_add]
section TXT
variable {x : Nat → Nat} {i len : Nat}
theorem ne5 {a v : Nat} (h : stt x a = v) (hv : v ≠ 5) : stt x a ≠ 5 := by rw [h]; exact hv
theorem st0 (h : stt x i = 0) : stt x (i + 1) = if sdN (x i) = 4 then 5 else 1 := by rw [stt, h]; rfl
theorem st1 (h : stt x i = 1) : stt x (i + 1) = if 48 ≤ x i ∧ x i ≤ 57 then 2 else 5 := by rw [stt, h]; rfl
theorem st2 (h : stt x i = 2) : stt x (i + 1) = if x i = 45 then 4 else if x i = 61 then 3 else 5 := by rw [stt, h]; rfl
theorem st3 (h : stt x i = 3) : stt x (i + 1) = if 48 ≤ x i ∧ x i ≤ 57 then 4 else 5 := by rw [stt, h]; rfl
theorem st4 (h : stt x i = 4) : stt x (i + 1) = if x i = 59 then 0 else 5 := by rw [stt, h]; rfl
theorem flt_bad (h : ∀ j, j < i → stt x (j + 1) ≠ 5) (hi : i < len) (h5 : stt x (i + 1) = 5) : flt x len = i := by
  have hF : fst1 (fun i => decide (stt x (i + 1) = 5)) len = i := fst1_at hi (fun j hj => decide_eq_false (h j hj)) (decide_eq_true h5)
  unfold flt
  rw [hF, if_pos hi]
theorem flt_end (h : ∀ j, j < len → stt x (j + 1) ≠ 5) : flt x len = if stt x len = 0 then 200 else len := by
  have hF : fst1 (fun i => decide (stt x (i + 1) = 5)) len = len := fst1_no (fun j hj => decide_eq_false (h j hj))
  unfold flt
  rw [hF, if_neg (by omega)]
/-- a state that isn't 0 where the text ends, or 5 one further -/
theorem flt_at (h : ∀ j, j < i → stt x (j + 1) ≠ 5) (hi : i ≤ len) (h0 : stt x i ≠ 0) (h5 : i < len → stt x (i + 1) = 5) : flt x len = i := by
  by_cases q : i < len
  · exact flt_bad h q (h5 q)
  · have e : i = len := by omega
    subst e
    rw [flt_end h, if_neg h0]
theorem itm_spec (h0 : stt x i = 0) (hi : i < len) (hz : ∀ j, j < i → stt x (j + 1) ≠ 5) :
    (itm x len i = 10 ∧ i + 4 ≤ len ∧ stt x (i + 1) = 1 ∧ stt x (i + 2) = 2 ∧ stt x (i + 3) = 4 ∧ stt x (i + 4) = 0) ∨
    (itm x len i = 11 ∧ i + 5 ≤ len ∧ stt x (i + 1) = 1 ∧ stt x (i + 2) = 2 ∧ stt x (i + 3) = 3 ∧ stt x (i + 4) = 4 ∧ stt x (i + 5) = 0) ∨
    (itm x len i ≤ 4 ∧ flt x len = i + itm x len i) := by
  unfold itm
  have k0 := st0 h0
  by_cases c0 : sdN (x i) = 4
  · right; right
    rw [if_pos (Or.inr c0)]
    rw [if_pos c0] at k0
    exact ⟨by omega, flt_bad hz hi k0⟩
  rw [if_neg (fun q => q.elim (by omega) c0)]
  rw [if_neg c0] at k0
  have z1 : ∀ j, j < i + 1 → stt x (j + 1) ≠ 5 := fun j hj => by
    rcases Nat.lt_succ_iff_lt_or_eq.mp hj with q | q
    · exact hz j q
    · rw [q]; exact ne5 k0 (by decide)
  have k1 : stt x (i + 2) = _ := st1 k0
  by_cases c1 : dgt x len (i + 1)
  rotate_left
  · right; right
    rw [if_neg c1]
    exact ⟨by omega, flt_at z1 (by omega) (by omega) (fun q => by rw [k1, if_neg (fun z => c1 ⟨q, z⟩)])⟩
  rw [if_pos c1]
  rw [if_pos c1.2] at k1
  have z2 : ∀ j, j < i + 2 → stt x (j + 1) ≠ 5 := fun j hj => by
    rcases Nat.lt_succ_iff_lt_or_eq.mp hj with q | q
    · exact z1 j q
    · rw [q]; exact ne5 k1 (by decide)
  have k2 : stt x (i + 3) = _ := st2 k1
  have d1 := c1.1
  by_cases c2 : i + 2 < len ∧ x (i + 2) = 45
  · rw [if_pos c2]
    rw [if_pos c2.2] at k2
    have z3 : ∀ j, j < i + 3 → stt x (j + 1) ≠ 5 := fun j hj => by
      rcases Nat.lt_succ_iff_lt_or_eq.mp hj with q | q
      · exact z2 j q
      · rw [q]; exact ne5 k2 (by decide)
    have k3 : stt x (i + 4) = _ := st4 k2
    have d2 := c2.1
    by_cases c3 : i + 3 < len ∧ x (i + 3) = 59
    · rw [if_pos c3]
      rw [if_pos c3.2] at k3
      exact Or.inl ⟨rfl, by omega, k0, k1, k2, k3⟩
    · right; right
      rw [if_neg c3]
      exact ⟨by omega, flt_at z3 (by omega) (by omega) (fun q => by rw [k3, if_neg (fun z => c3 ⟨q, z⟩)])⟩
  rw [if_neg c2]
  by_cases c4 : i + 2 < len ∧ x (i + 2) = 61
  rotate_left
  · right; right
    rw [if_neg c4]
    exact ⟨by omega, flt_at z2 (by omega) (by omega) (fun q => by rw [k2, if_neg (fun z => c2 ⟨q, z⟩), if_neg (fun z => c4 ⟨q, z⟩)])⟩
  rw [if_pos c4]
  rw [if_neg (fun z => c2 ⟨c4.1, z⟩), if_pos c4.2] at k2
  have z3 : ∀ j, j < i + 3 → stt x (j + 1) ≠ 5 := fun j hj => by
    rcases Nat.lt_succ_iff_lt_or_eq.mp hj with q | q
    · exact z2 j q
    · rw [q]; exact ne5 k2 (by decide)
  have k3 : stt x (i + 4) = _ := st3 k2
  have d2 := c4.1
  by_cases c5 : dgt x len (i + 3)
  rotate_left
  · right; right
    rw [if_neg c5]
    exact ⟨by omega, flt_at z3 (by omega) (by omega) (fun q => by rw [k3, if_neg (fun z => c5 ⟨q, z⟩)])⟩
  rw [if_pos c5]
  rw [if_pos c5.2] at k3
  have z4 : ∀ j, j < i + 4 → stt x (j + 1) ≠ 5 := fun j hj => by
    rcases Nat.lt_succ_iff_lt_or_eq.mp hj with q | q
    · exact z3 j q
    · rw [q]; exact ne5 k3 (by decide)
  have k4 : stt x (i + 5) = _ := st4 k3
  have d3 := c5.1
  by_cases c6 : i + 4 < len ∧ x (i + 4) = 59
  · rw [if_pos c6]
    rw [if_pos c6.2] at k4
    exact Or.inr (Or.inl ⟨rfl, by omega, k0, k1, k2, k3, k4⟩)
  · right; right
    rw [if_neg c6]
    exact ⟨by omega, flt_at z4 (by omega) (by omega) (fun q => by rw [k4, if_neg (fun z => c6 ⟨q, z⟩)])⟩
/-- what is taken after an item -/
theorem tk_4 {k : Nat} {σ : Nat → Nat} (h0 : stt x i = 0) (h1 : stt x (i + 1) = 1) (h2 : stt x (i + 2) = 2) (h3 : stt x (i + 3) = 4) :
    (tkR x k σ (i + 4)).2.2.2.1 = (tkR x k σ i).2.2.2.1 + 1 ∧ (tkR x k σ (i + 4)).2.2.2.2 = su (tkR x k σ i).2.2.2.2 (64 + 53 * k + (10 * sdN (x i) + (x (i + 1) - 48))) 10 := by
  rw [show tkR x k σ (i + 4) = tkS x k (i + 3) (tkS x k (i + 2) (tkS x k (i + 1) (tkS x k i (tkR x k σ i)))) from rfl]
  generalize tkR x k σ i = r
  have e0 : tkS x k i r = (sdN (x i), r.2.1, 10, r.2.2.2.1, r.2.2.2.2) := by unfold tkS; rw [if_pos h0]
  rw [e0]
  have e1 : ∀ r, tkS x k (i + 1) r = (r.1, x (i + 1) - 48, r.2.2.1, r.2.2.2.1, r.2.2.2.2) := fun r => by unfold tkS; rw [if_neg (by omega), if_pos h1]
  rw [e1]
  have e2 : ∀ r, tkS x k (i + 2) r = r := fun r => by unfold tkS; rw [if_neg (by omega), if_neg (by omega), if_neg (by omega), if_neg (by omega)]
  rw [e2]
  have e3 : ∀ r, tkS x k (i + 3) r = (r.1, r.2.1, r.2.2.1, r.2.2.2.1 + 1, su r.2.2.2.2 (64 + 53 * k + (10 * r.1 + r.2.1)) r.2.2.1) := fun r => by unfold tkS; rw [if_neg (by omega), if_neg (by omega), if_neg (by omega), if_pos h3]
  rw [e3]
  exact ⟨rfl, rfl⟩
theorem tk_5 {k : Nat} {σ : Nat → Nat} (h0 : stt x i = 0) (h1 : stt x (i + 1) = 1) (h2 : stt x (i + 2) = 2) (h3 : stt x (i + 3) = 3) (h4 : stt x (i + 4) = 4) :
    (tkR x k σ (i + 5)).2.2.2.1 = (tkR x k σ i).2.2.2.1 + 1 ∧ (tkR x k σ (i + 5)).2.2.2.2 = su (tkR x k σ i).2.2.2.2 (64 + 53 * k + (10 * sdN (x i) + (x (i + 1) - 48))) (x (i + 3) - 48) := by
  rw [show tkR x k σ (i + 5) = tkS x k (i + 4) (tkS x k (i + 3) (tkS x k (i + 2) (tkS x k (i + 1) (tkS x k i (tkR x k σ i))))) from rfl]
  generalize tkR x k σ i = r
  have e0 : tkS x k i r = (sdN (x i), r.2.1, 10, r.2.2.2.1, r.2.2.2.2) := by unfold tkS; rw [if_pos h0]
  rw [e0]
  have e1 : ∀ r, tkS x k (i + 1) r = (r.1, x (i + 1) - 48, r.2.2.1, r.2.2.2.1, r.2.2.2.2) := fun r => by unfold tkS; rw [if_neg (by omega), if_pos h1]
  rw [e1]
  have e2 : ∀ r, tkS x k (i + 2) r = r := fun r => by unfold tkS; rw [if_neg (by omega), if_neg (by omega), if_neg (by omega), if_neg (by omega)]
  rw [e2]
  have e3 : ∀ r, tkS x k (i + 3) r = (r.1, r.2.1, x (i + 3) - 48, r.2.2.2.1, r.2.2.2.2) := fun r => by unfold tkS; rw [if_neg (by omega), if_neg (by omega), if_pos h3]
  rw [e3]
  have e4 : ∀ r, tkS x k (i + 4) r = (r.1, r.2.1, r.2.2.1, r.2.2.2.1 + 1, su r.2.2.2.2 (64 + 53 * k + (10 * r.1 + r.2.1)) r.2.2.1) := fun r => by unfold tkS; rw [if_neg (by omega), if_neg (by omega), if_neg (by omega), if_pos h4]
  rw [e4]
  exact ⟨rfl, rfl⟩
end TXT
set_option maxHeartbeats 4000000 in
set_option maxRecDepth 100000 in
theorem kX5_keeps_1 (l : Launch) (G : zG) (m : Nat → Nat) (σ : Nat → Nat) (V : Nat → Nat → Nat) (ζ : Nat → Nat) (ns : Nat) (x : Nat → Nat) (len : Nat) (B : Nat → Int32) {N : Nat} (k : Nat) (v : Nat) (hO : Ok N σ) (hk : k < 36) (hns : ns ≤ 4) (hg : ¬ (σ 2 ≠ 0 ∧ 0 < brA σ (nE σ))) (hd : va_D (fun _ => True) (wM G m σ V ζ ns x len B)) : Met l yX5_keeps wsX5_keeps (zRm 7 160) (zPc G [.ref (m 0), .int (nI k), .int (nI 1), .int (nI v)] (va_P G.1 vwCl (wM G m σ V ζ ns x len B))) (zQ (zA (wM G m σ V ζ ns x len B)) (some (.int (nI (v)))) (va_P G.1 vwCl (wM G m (su (grs σ (nE σ)) (114 + 53 * k) (rvn (grs σ (nE σ)) k + 1)) (updv V ns ζ) ζ (nN ns) x len B))) 0 0 (zA (wM G m σ V ζ ns x len B)) := by
  refine zmkWi (w := (wM G m σ V ζ ns x len B)) hd (cc := cX5_keeps) (maxL := 4) (by decide) rfl (Nat.le_of_ble_eq_true rfl) ?_
  intro pr en st mi ar bl me cd ls Q hx hb hml hown hts hG hP hl hD hS hret
  have hown : st.vm.findClass RX5 = some mi.cls := hown
  have hl : lv_has ls 4 [(0, .ref (m 0)), (1, .int (nI k)), (2, .int (nI 1)), (3, .int (nI v))] := hl
  have hP : va_P G.1 vwCl (wM G m σ V ζ ns x len B) st.heap := hP
  have hD : va_D (zA (wM G m σ V ζ ns x len B)) (wM G m σ V ζ ns x len B) := hD
  have hc := hO.c
  have hs := hO.lS
  have hr := hO.lR
  have hne := hO.lE
  refine lv_aload_n hx hb dX5_keeps_0 rfl (lv_at hl 0 rfl) ?_
  refine zwrW (G := G) (wc := (wM G m σ V ζ ns x len B)) (wc' := (wM G m (grs σ (nE σ)) V ζ ns x len B)) (va_runV (As := []) (rest := []) ⟨hx, hb, hml, hown, hts⟩ (kX5_isGuarded l G m σ V ζ ns x len B (hO) (zD_any hD)) (cwV 0 hts gX5_keeps_X5_isGuarded rfl rfl rfl (by decide +kernel) ⟨Nat.le_of_ble_eq_true rfl, Nat.le_of_ble_eq_true rfl⟩) (zPreV hG (va_recv (q0 := 0) (ci := 5) hG.1 hP rfl rfl) (hP)) rfl rfl hl.1 rfl (lv_room (Nat.le_of_ble_eq_true rfl)) dX5_keeps_1 ⟨Nat.le_of_ble_eq_true rfl, Nat.le_of_ble_eq_true rfl⟩) hP hD hS (wM_map ..) (fun H locs hP hD hS => ?_)
  have hP : va_P G.1 vwCl (wM G m (grs σ (nE σ)) V ζ ns x len B) H := hP
  have hD : va_D (zA (wM G m σ V ζ ns x len B)) (wM G m (grs σ (nE σ)) V ζ ns x len B) := hD
  refine lv_if_ne (tgt := 14) hx hb dX5_keeps_4 (by decide) (fun h4 => ?_) (fun h4 => ?_)
  · skip
    have h4 : ¬ (¬ (¬ (σ 2 ≠ 0 ∧ 0 < brA σ (nE σ)))) := fun q => h4 ((z_b0).mpr q)
    have h4 : ¬ (σ 2 ≠ 0 ∧ 0 < brA σ (nE σ)) := Decidable.of_not_not h4
    refine lv_iload_n hx hb dX5_keeps_14 rfl (lv_at hl 2 rfl) ?_
    refine lv_if_eq (tgt := 23) hx hb dX5_keeps_15 (by decide) (fun h15 => ?_) (fun h15 => ?_)
    · skip
      have h15 : 1 = 0 := (z_eq0 (by omega)).mp h15
      exfalso; omega
    · skip
      have h15 : ¬ (1 = 0) := fun q => h15 ((z_eq0 (by omega)).mpr q)
      have h15 : 0 < 1 := Nat.pos_of_ne_zero h15
      refine lv_aload_n hx hb dX5_keeps_18 rfl (lv_at hl 0 rfl) ?_
      refine lv_iload_n hx hb dX5_keeps_19 rfl (lv_at hl 1 rfl) ?_
      refine zwrWv (G := G) (wc := (wM G m (grs σ (nE σ)) V ζ ns x len B)) (wc' := (wM G m (su (grs σ (nE σ)) (114 + 53 * k) (rvn (grs σ (nE σ)) k + 1)) V ζ ns x len B)) (va_runV (As := [.int (nI k)]) (rest := []) ⟨hx, hb, hml, hown, hts⟩ (kX5_revises l G m (grs σ (nE σ)) V ζ ns x len B k (by omega) (zD_any hD)) (cwV 1 hts gX5_keeps_X5_revises rfl rfl rfl (by decide +kernel) ⟨Nat.le_of_ble_eq_true rfl, Nat.le_of_ble_eq_true rfl⟩) (zPreV hG (va_recv (q0 := 0) (ci := 5) hG.1 hP rfl rfl) (hP)) rfl rfl hl.1 rfl (lv_room (Nat.le_of_ble_eq_true rfl)) dX5_keeps_20 ⟨Nat.le_of_ble_eq_true rfl, Nat.le_of_ble_eq_true rfl⟩) hP hD hS (wM_map ..) (fun H locs hP hD hS => ?_)
      have hP : va_P G.1 vwCl (wM G m (su (grs σ (nE σ)) (114 + 53 * k) (rvn (grs σ (nE σ)) k + 1)) V ζ ns x len B) H := hP
      have hD : va_D (zA (wM G m σ V ζ ns x len B)) (wM G m (su (grs σ (nE σ)) (114 + 53 * k) (rvn (grs σ (nE σ)) k + 1)) V ζ ns x len B) := hD
      refine lv_aload_n hx hb dX5_keeps_23 rfl (lv_at hl 0 rfl) ?_
      refine lv_iload_n hx hb dX5_keeps_24 rfl (lv_at hl 3 rfl) ?_
      refine zwrW (G := G) (wc := (wM G m (su (grs σ (nE σ)) (114 + 53 * k) (rvn (grs σ (nE σ)) k + 1)) V ζ ns x len B)) (wc' := (wM G m (su (grs σ (nE σ)) (114 + 53 * k) (rvn (grs σ (nE σ)) k + 1)) (updv V ns ζ) ζ (nN ns) x len B)) (va_runV (As := [.int (nI v)]) (rest := []) ⟨hx, hb, hml, hown, hts⟩ (kX5_records l G m (su (grs σ (nE σ)) (114 + 53 * k) (rvn (grs σ (nE σ)) k + 1)) V ζ ns x len B (nI v) (by omega) (zD_any hD)) (cwV 1 hts gX5_keeps_X5_records rfl rfl rfl (by decide +kernel) ⟨Nat.le_of_ble_eq_true rfl, Nat.le_of_ble_eq_true rfl⟩) (zPreV hG (va_recv (q0 := 0) (ci := 5) hG.1 hP rfl rfl) (hP)) rfl rfl hl.1 rfl (lv_room (Nat.le_of_ble_eq_true rfl)) dX5_keeps_25 ⟨Nat.le_of_ble_eq_true rfl, Nat.le_of_ble_eq_true rfl⟩) hP hD hS (wM_map ..) (fun H locs hP hD hS => ?_)
      have hP : va_P G.1 vwCl (wM G m (su (grs σ (nE σ)) (114 + 53 * k) (rvn (grs σ (nE σ)) k + 1)) (updv V ns ζ) ζ (nN ns) x len B) H := hP
      have hD : va_D (zA (wM G m σ V ζ ns x len B)) (wM G m (su (grs σ (nE σ)) (114 + 53 * k) (rvn (grs σ (nE σ)) k + 1)) (updv V ns ζ) ζ (nN ns) x len B) := hD
      exact hret _ _ _ _ _ dX5_keeps_28 hS (hP) (rfl)
  · skip
    have h4 : ¬ (¬ (σ 2 ≠ 0 ∧ 0 < brA σ (nE σ))) := (z_b0).mp h4
    exact (h4 hg).elim
set_option maxHeartbeats 4000000 in
set_option maxRecDepth 100000 in
theorem kX5_keeps_0 (l : Launch) (G : zG) (m : Nat → Nat) (σ : Nat → Nat) (V : Nat → Nat → Nat) (ζ : Nat → Nat) (ns : Nat) (x : Nat → Nat) (len : Nat) (B : Nat → Int32) {N : Nat} (k : Nat) (v : Nat) (hO : Ok N σ) (hns : ns ≤ 4) (hg : ¬ (σ 2 ≠ 0 ∧ 0 < brA σ (nE σ))) (hd : va_D (fun _ => True) (wM G m σ V ζ ns x len B)) : Met l yX5_keeps wsX5_keeps (zRm 7 160) (zPc G [.ref (m 0), .int (nI k), .int (nI 0), .int (nI v)] (va_P G.1 vwCl (wM G m σ V ζ ns x len B))) (zQ (zA (wM G m σ V ζ ns x len B)) (some (.int (nI (v)))) (va_P G.1 vwCl (wM G m (grs σ (nE σ)) (updv V ns ζ) ζ (nN ns) x len B))) 0 0 (zA (wM G m σ V ζ ns x len B)) := by
  refine zmkWi (w := (wM G m σ V ζ ns x len B)) hd (cc := cX5_keeps) (maxL := 4) (by decide) rfl (Nat.le_of_ble_eq_true rfl) ?_
  intro pr en st mi ar bl me cd ls Q hx hb hml hown hts hG hP hl hD hS hret
  have hown : st.vm.findClass RX5 = some mi.cls := hown
  have hl : lv_has ls 4 [(0, .ref (m 0)), (1, .int (nI k)), (2, .int (nI 0)), (3, .int (nI v))] := hl
  have hP : va_P G.1 vwCl (wM G m σ V ζ ns x len B) st.heap := hP
  have hD : va_D (zA (wM G m σ V ζ ns x len B)) (wM G m σ V ζ ns x len B) := hD
  have hc := hO.c
  have hs := hO.lS
  have hr := hO.lR
  have hne := hO.lE
  refine lv_aload_n hx hb dX5_keeps_0 rfl (lv_at hl 0 rfl) ?_
  refine zwrW (G := G) (wc := (wM G m σ V ζ ns x len B)) (wc' := (wM G m (grs σ (nE σ)) V ζ ns x len B)) (va_runV (As := []) (rest := []) ⟨hx, hb, hml, hown, hts⟩ (kX5_isGuarded l G m σ V ζ ns x len B (hO) (zD_any hD)) (cwV 0 hts gX5_keeps_X5_isGuarded rfl rfl rfl (by decide +kernel) ⟨Nat.le_of_ble_eq_true rfl, Nat.le_of_ble_eq_true rfl⟩) (zPreV hG (va_recv (q0 := 0) (ci := 5) hG.1 hP rfl rfl) (hP)) rfl rfl hl.1 rfl (lv_room (Nat.le_of_ble_eq_true rfl)) dX5_keeps_1 ⟨Nat.le_of_ble_eq_true rfl, Nat.le_of_ble_eq_true rfl⟩) hP hD hS (wM_map ..) (fun H locs hP hD hS => ?_)
  have hP : va_P G.1 vwCl (wM G m (grs σ (nE σ)) V ζ ns x len B) H := hP
  have hD : va_D (zA (wM G m σ V ζ ns x len B)) (wM G m (grs σ (nE σ)) V ζ ns x len B) := hD
  refine lv_if_ne (tgt := 14) hx hb dX5_keeps_4 (by decide) (fun h4 => ?_) (fun h4 => ?_)
  · skip
    have h4 : ¬ (¬ (¬ (σ 2 ≠ 0 ∧ 0 < brA σ (nE σ)))) := fun q => h4 ((z_b0).mpr q)
    have h4 : ¬ (σ 2 ≠ 0 ∧ 0 < brA σ (nE σ)) := Decidable.of_not_not h4
    refine lv_iload_n hx hb dX5_keeps_14 rfl (lv_at hl 2 rfl) ?_
    refine lv_if_eq (tgt := 23) hx hb dX5_keeps_15 (by decide) (fun h15 => ?_) (fun h15 => ?_)
    · skip
      have h15 : 0 = 0 := (z_eq0 (by omega)).mp h15
      refine lv_aload_n hx hb dX5_keeps_23 rfl (lv_at hl 0 rfl) ?_
      refine lv_iload_n hx hb dX5_keeps_24 rfl (lv_at hl 3 rfl) ?_
      refine zwrW (G := G) (wc := (wM G m (grs σ (nE σ)) V ζ ns x len B)) (wc' := (wM G m (grs σ (nE σ)) (updv V ns ζ) ζ (nN ns) x len B)) (va_runV (As := [.int (nI v)]) (rest := []) ⟨hx, hb, hml, hown, hts⟩ (kX5_records l G m (grs σ (nE σ)) V ζ ns x len B (nI v) (by omega) (zD_any hD)) (cwV 1 hts gX5_keeps_X5_records rfl rfl rfl (by decide +kernel) ⟨Nat.le_of_ble_eq_true rfl, Nat.le_of_ble_eq_true rfl⟩) (zPreV hG (va_recv (q0 := 0) (ci := 5) hG.1 hP rfl rfl) (hP)) rfl rfl hl.1 rfl (lv_room (Nat.le_of_ble_eq_true rfl)) dX5_keeps_25 ⟨Nat.le_of_ble_eq_true rfl, Nat.le_of_ble_eq_true rfl⟩) hP hD hS (wM_map ..) (fun H locs hP hD hS => ?_)
      have hP : va_P G.1 vwCl (wM G m (grs σ (nE σ)) (updv V ns ζ) ζ (nN ns) x len B) H := hP
      have hD : va_D (zA (wM G m σ V ζ ns x len B)) (wM G m (grs σ (nE σ)) (updv V ns ζ) ζ (nN ns) x len B) := hD
      exact hret _ _ _ _ _ dX5_keeps_28 hS (hP) (rfl)
    · skip
      have h15 : ¬ (0 = 0) := fun q => h15 ((z_eq0 (by omega)).mpr q)
      have h15 : 0 < 0 := Nat.pos_of_ne_zero h15
      exfalso; omega
  · skip
    have h4 : ¬ (¬ (σ 2 ≠ 0 ∧ 0 < brA σ (nE σ))) := (z_b0).mp h4
    exact (h4 hg).elim
set_option maxHeartbeats 4000000 in
set_option maxRecDepth 100000 in
theorem kX5_keeps_no0 (l : Launch) (G : zG) (m : Nat → Nat) (σ : Nat → Nat) (V : Nat → Nat → Nat) (ζ : Nat → Nat) (ns : Nat) (x : Nat → Nat) (len : Nat) (B : Nat → Int32) {N : Nat} (k : Nat) (v : Nat) (hO : Ok N σ) (hg : σ 2 ≠ 0 ∧ 0 < brA σ (nE σ)) (hd : va_D (fun _ => True) (wM G m σ V ζ ns x len B)) : Met l yX5_keeps wsX5_keeps (zRm 7 160) (zPc G [.ref (m 0), .int (nI k), .int (nI 0), .int (nI v)] (va_P G.1 vwCl (wM G m σ V ζ ns x len B))) (zQ (zA (wM G m σ V ζ ns x len B)) (some (.int ((-2)))) (va_P G.1 vwCl (wM G m ζ V ζ ns x len B))) 0 0 (zA (wM G m σ V ζ ns x len B)) := by
  refine zmkWi (w := (wM G m σ V ζ ns x len B)) hd (cc := cX5_keeps) (maxL := 4) (by decide) rfl (Nat.le_of_ble_eq_true rfl) ?_
  intro pr en st mi ar bl me cd ls Q hx hb hml hown hts hG hP hl hD hS hret
  have hown : st.vm.findClass RX5 = some mi.cls := hown
  have hl : lv_has ls 4 [(0, .ref (m 0)), (1, .int (nI k)), (2, .int (nI 0)), (3, .int (nI v))] := hl
  have hP : va_P G.1 vwCl (wM G m σ V ζ ns x len B) st.heap := hP
  have hD : va_D (zA (wM G m σ V ζ ns x len B)) (wM G m σ V ζ ns x len B) := hD
  have hc := hO.c
  have hs := hO.lS
  have hr := hO.lR
  have hne := hO.lE
  refine lv_aload_n hx hb dX5_keeps_0 rfl (lv_at hl 0 rfl) ?_
  refine zwrW (G := G) (wc := (wM G m σ V ζ ns x len B)) (wc' := (wM G m (grs σ (nE σ)) V ζ ns x len B)) (va_runV (As := []) (rest := []) ⟨hx, hb, hml, hown, hts⟩ (kX5_isGuarded l G m σ V ζ ns x len B (hO) (zD_any hD)) (cwV 0 hts gX5_keeps_X5_isGuarded rfl rfl rfl (by decide +kernel) ⟨Nat.le_of_ble_eq_true rfl, Nat.le_of_ble_eq_true rfl⟩) (zPreV hG (va_recv (q0 := 0) (ci := 5) hG.1 hP rfl rfl) (hP)) rfl rfl hl.1 rfl (lv_room (Nat.le_of_ble_eq_true rfl)) dX5_keeps_1 ⟨Nat.le_of_ble_eq_true rfl, Nat.le_of_ble_eq_true rfl⟩) hP hD hS (wM_map ..) (fun H locs hP hD hS => ?_)
  have hP : va_P G.1 vwCl (wM G m (grs σ (nE σ)) V ζ ns x len B) H := hP
  have hD : va_D (zA (wM G m σ V ζ ns x len B)) (wM G m (grs σ (nE σ)) V ζ ns x len B) := hD
  refine lv_if_ne (tgt := 14) hx hb dX5_keeps_4 (by decide) (fun h4 => ?_) (fun h4 => ?_)
  · skip
    have h4 : ¬ (¬ (¬ (σ 2 ≠ 0 ∧ 0 < brA σ (nE σ)))) := fun q => h4 ((z_b0).mpr q)
    have h4 : ¬ (σ 2 ≠ 0 ∧ 0 < brA σ (nE σ)) := Decidable.of_not_not h4
    exact (h4 hg).elim
  · skip
    have h4 : ¬ (¬ (σ 2 ≠ 0 ∧ 0 < brA σ (nE σ))) := (z_b0).mp h4
    refine lv_aload_n hx hb dX5_keeps_7 rfl (lv_at hl 0 rfl) ?_
    refine zwrWv (G := G) (wc := (wM G m (grs σ (nE σ)) V ζ ns x len B)) (wc' := (wM G m ζ V ζ ns x len B)) (va_runV (As := []) (rest := []) ⟨hx, hb, hml, hown, hts⟩ (kX5_restore l G m (grs σ (nE σ)) V ζ ns x len B (zD_any hD)) (cwV 0 hts gX5_keeps_X5_restore rfl rfl rfl (by decide +kernel) ⟨Nat.le_of_ble_eq_true rfl, Nat.le_of_ble_eq_true rfl⟩) (zPreV hG (va_recv (q0 := 0) (ci := 5) hG.1 hP rfl rfl) (hP)) rfl rfl hl.1 rfl (lv_room (Nat.le_of_ble_eq_true rfl)) dX5_keeps_8 ⟨Nat.le_of_ble_eq_true rfl, Nat.le_of_ble_eq_true rfl⟩) hP hD hS (wM_map ..) (fun H locs hP hD hS => ?_)
    have hP : va_P G.1 vwCl (wM G m ζ V ζ ns x len B) H := hP
    have hD : va_D (zA (wM G m σ V ζ ns x len B)) (wM G m ζ V ζ ns x len B) := hD
    refine lv_bipush (v := (-2)) hx hb dX5_keeps_11 (by decide) ?_
    exact hret _ _ _ _ _ dX5_keeps_13 hS (hP) (rfl)
set_option maxHeartbeats 4000000 in
set_option maxRecDepth 100000 in
theorem kX5_keeps_no1 (l : Launch) (G : zG) (m : Nat → Nat) (σ : Nat → Nat) (V : Nat → Nat → Nat) (ζ : Nat → Nat) (ns : Nat) (x : Nat → Nat) (len : Nat) (B : Nat → Int32) {N : Nat} (k : Nat) (v : Nat) (hO : Ok N σ) (hg : σ 2 ≠ 0 ∧ 0 < brA σ (nE σ)) (hd : va_D (fun _ => True) (wM G m σ V ζ ns x len B)) : Met l yX5_keeps wsX5_keeps (zRm 7 160) (zPc G [.ref (m 0), .int (nI k), .int (nI 1), .int (nI v)] (va_P G.1 vwCl (wM G m σ V ζ ns x len B))) (zQ (zA (wM G m σ V ζ ns x len B)) (some (.int ((-2)))) (va_P G.1 vwCl (wM G m ζ V ζ ns x len B))) 0 0 (zA (wM G m σ V ζ ns x len B)) := by
  refine zmkWi (w := (wM G m σ V ζ ns x len B)) hd (cc := cX5_keeps) (maxL := 4) (by decide) rfl (Nat.le_of_ble_eq_true rfl) ?_
  intro pr en st mi ar bl me cd ls Q hx hb hml hown hts hG hP hl hD hS hret
  have hown : st.vm.findClass RX5 = some mi.cls := hown
  have hl : lv_has ls 4 [(0, .ref (m 0)), (1, .int (nI k)), (2, .int (nI 1)), (3, .int (nI v))] := hl
  have hP : va_P G.1 vwCl (wM G m σ V ζ ns x len B) st.heap := hP
  have hD : va_D (zA (wM G m σ V ζ ns x len B)) (wM G m σ V ζ ns x len B) := hD
  have hc := hO.c
  have hs := hO.lS
  have hr := hO.lR
  have hne := hO.lE
  refine lv_aload_n hx hb dX5_keeps_0 rfl (lv_at hl 0 rfl) ?_
  refine zwrW (G := G) (wc := (wM G m σ V ζ ns x len B)) (wc' := (wM G m (grs σ (nE σ)) V ζ ns x len B)) (va_runV (As := []) (rest := []) ⟨hx, hb, hml, hown, hts⟩ (kX5_isGuarded l G m σ V ζ ns x len B (hO) (zD_any hD)) (cwV 0 hts gX5_keeps_X5_isGuarded rfl rfl rfl (by decide +kernel) ⟨Nat.le_of_ble_eq_true rfl, Nat.le_of_ble_eq_true rfl⟩) (zPreV hG (va_recv (q0 := 0) (ci := 5) hG.1 hP rfl rfl) (hP)) rfl rfl hl.1 rfl (lv_room (Nat.le_of_ble_eq_true rfl)) dX5_keeps_1 ⟨Nat.le_of_ble_eq_true rfl, Nat.le_of_ble_eq_true rfl⟩) hP hD hS (wM_map ..) (fun H locs hP hD hS => ?_)
  have hP : va_P G.1 vwCl (wM G m (grs σ (nE σ)) V ζ ns x len B) H := hP
  have hD : va_D (zA (wM G m σ V ζ ns x len B)) (wM G m (grs σ (nE σ)) V ζ ns x len B) := hD
  refine lv_if_ne (tgt := 14) hx hb dX5_keeps_4 (by decide) (fun h4 => ?_) (fun h4 => ?_)
  · skip
    have h4 : ¬ (¬ (¬ (σ 2 ≠ 0 ∧ 0 < brA σ (nE σ)))) := fun q => h4 ((z_b0).mpr q)
    have h4 : ¬ (σ 2 ≠ 0 ∧ 0 < brA σ (nE σ)) := Decidable.of_not_not h4
    exact (h4 hg).elim
  · skip
    have h4 : ¬ (¬ (σ 2 ≠ 0 ∧ 0 < brA σ (nE σ))) := (z_b0).mp h4
    refine lv_aload_n hx hb dX5_keeps_7 rfl (lv_at hl 0 rfl) ?_
    refine zwrWv (G := G) (wc := (wM G m (grs σ (nE σ)) V ζ ns x len B)) (wc' := (wM G m ζ V ζ ns x len B)) (va_runV (As := []) (rest := []) ⟨hx, hb, hml, hown, hts⟩ (kX5_restore l G m (grs σ (nE σ)) V ζ ns x len B (zD_any hD)) (cwV 0 hts gX5_keeps_X5_restore rfl rfl rfl (by decide +kernel) ⟨Nat.le_of_ble_eq_true rfl, Nat.le_of_ble_eq_true rfl⟩) (zPreV hG (va_recv (q0 := 0) (ci := 5) hG.1 hP rfl rfl) (hP)) rfl rfl hl.1 rfl (lv_room (Nat.le_of_ble_eq_true rfl)) dX5_keeps_8 ⟨Nat.le_of_ble_eq_true rfl, Nat.le_of_ble_eq_true rfl⟩) hP hD hS (wM_map ..) (fun H locs hP hD hS => ?_)
    have hP : va_P G.1 vwCl (wM G m ζ V ζ ns x len B) H := hP
    have hD : va_D (zA (wM G m σ V ζ ns x len B)) (wM G m ζ V ζ ns x len B) := hD
    refine lv_bipush (v := (-2)) hx hb dX5_keeps_11 (by decide) ?_
    exact hret _ _ _ _ _ dX5_keeps_13 hS (hP) (rfl)
set_option maxHeartbeats 4000000 in
set_option maxRecDepth 100000 in
theorem kX5_itemAt (l : Launch) (G : zG) (m : Nat → Nat) (σ : Nat → Nat) (V : Nat → Nat → Nat) (ζ : Nat → Nat) (ns : Nat) (x : Nat → Nat) (len : Nat) (B : Nat → Int32) (i : Nat) (hlen : len ≤ 100) (htx : ∀ i, i < 100 → x i < 65536) (hil : i ≤ len) : Met l yX5_itemAt wsX5_itemAt (zRm 2 43) (zPc G [.ref (m 0), .int (nI i)] (va_P G.1 vwCl (wM G m σ V ζ ns x len B))) (zS (.int (itR (itm x len i)))) 0 0 (fun _ => False) := by
  refine zmkI (cc := cX5_itemAt) (maxL := 2) (by decide) rfl (Nat.le_of_ble_eq_true rfl) ?_
  intro pr en st mi ar bl me cd ls Q hx hb hml hown hts hG hP hl hret
  have hown : st.vm.findClass RX5 = some mi.cls := hown
  have hl : lv_has ls 2 [(0, .ref (m 0)), (1, .int (nI i))] := hl
  have hP : va_P G.1 vwCl (wM G m σ V ζ ns x len B) st.heap := hP
  have hinX5 : ∀ w ∈ wsX50, w ∈ wsX5_itemAt := by decide +kernel
  have hf157 := hts (.fieldLink RX5 157 "MapSheetsModel" "typed" "I") (by decide +kernel)
  have hf19 := hts (.fieldLink RX5 19 "MapSheetsModel" "text" "[I") (by decide +kernel)
  refine lv_iload_n hx hb dX5_itemAt_0 rfl (lv_at hl 1 rfl) ?_
  refine lv_aload_n hx hb dX5_itemAt_1 rfl (lv_at hl 0 rfl) ?_
  refine va_get (D := G.1) (ci := 5) (v := .int (nI len)) (C := RX5) (T := TX5) (N := 7) hx hb hts hinX5 hown hG.1 hP 0 rfl rfl 5 (by decide) hf157 (fun _ h9 => h9) rfl dX5_itemAt_2 ?_
  refine lv_icmp_eq (tgt := 22) hx hb dX5_itemAt_5 (by decide) (fun h5 => ?_) (fun h5 => ?_)
  · skip
    have h5 : i = len := (nI_eq (by omega) (by omega)).mp h5
    refine lv_iconst (v := (-1)) hx hb dX5_itemAt_22 (by decide) ?_
    exact hret _ _ _ dX5_itemAt_23 (by rw [show itm x len i = 0 by unfold itm; rw [if_pos (Or.inl h5)]]; rfl)
  · skip
    have h5 : ¬ (i = len) := fun q => h5 ((nI_eq (by omega) (by omega)).mpr q)
    have hxi := htx i (by omega)
    refine lv_aload_n hx hb dX5_itemAt_8 rfl (lv_at hl 0 rfl) ?_
    refine va_get (D := G.1) (ci := 5) (v := .ref (m 4)) (C := RX5) (T := TX5) (N := 7) hx hb hts hinX5 hown hG.1 hP 0 rfl rfl 4 (by decide) hf19 (fun _ h9 => h9) rfl dX5_itemAt_9 ?_
    refine lv_iload_n hx hb dX5_itemAt_12 rfl (lv_at hl 1 rfl) ?_
    refine va_iald hx hb hG.1 hP 4 0 rfl rfl (vp_in_nI (n := i) (N := 100) (by omega) (by omega)) dX5_itemAt_13 ?_
    refine lv_topi (nm_r (e' := nI (x i)) (by rw [nI_clamp (by omega)]) ?_)
    refine zrdS (As := [.int (nI (x i))]) ⟨hx, hb, hml, hown, hts⟩ (kX5_sideNamed l G  (x i) (by omega)) (va_cwS 1 hts gX5_itemAt_X5_sideNamed rfl rfl rfl (by decide +kernel) ⟨Nat.le_of_ble_eq_true rfl, Nat.le_of_ble_eq_true rfl⟩) hG (trivial) rfl rfl hl.1 dX5_itemAt_14 (Nat.le_of_ble_eq_true rfl) ⟨Nat.le_of_ble_eq_true rfl, Nat.le_of_ble_eq_true rfl⟩ ?_
    have hf14_0 := sdN_le ((x i))
    refine lv_bipush (v := (-4)) hx hb dX5_itemAt_17 (by decide) ?_
    refine lv_icmp_ne (tgt := 24) hx hb dX5_itemAt_19 (by decide) (fun h19 => ?_) (fun h19 => ?_)
    · skip
      have h19 : ¬ (sdN (x i) = 4) := fun q => h19 ((zc_m4 (by omega)).mpr q)
      refine lv_aload_n hx hb dX5_itemAt_24 rfl (lv_at hl 0 rfl) ?_
      refine lv_iload_n hx hb dX5_itemAt_25 rfl (lv_at hl 1 rfl) ?_
      refine lv_iconst (v := nI 1) hx hb dX5_itemAt_26 (by decide) ?_
      refine lv_iadd hx hb dX5_itemAt_27 ?_
      refine lv_topi (nm_r (e' := nI (i + 1)) (nI_add _ _) ?_)
      refine zrdV (As := [.int (nI (i + 1))]) ⟨hx, hb, hml, hown, hts⟩ (kX5_isDigit l G m σ V ζ ns x len B (i + 1) (hlen) (htx) (by omega)) (cwV 1 hts gX5_itemAt_X5_isDigit rfl rfl rfl (by decide +kernel) ⟨Nat.le_of_ble_eq_true rfl, Nat.le_of_ble_eq_true rfl⟩) hG (va_recv (q0 := 0) (ci := 5) hG.1 hP rfl rfl) (hP) rfl rfl hl.1 dX5_itemAt_28 (Nat.le_of_ble_eq_true rfl) ⟨Nat.le_of_ble_eq_true rfl, Nat.le_of_ble_eq_true rfl⟩ ?_
      refine lv_if_ne (tgt := 37) hx hb dX5_itemAt_31 (by decide) (fun h31 => ?_) (fun h31 => ?_)
      · skip
        have h31 : ¬ (¬ ((i + 1) < len ∧ (48 ≤ x (i + 1) ∧ x (i + 1) ≤ 57))) := fun q => h31 ((z_b0).mpr q)
        have h31 : (i + 1) < len ∧ (48 ≤ x (i + 1) ∧ x (i + 1) ≤ 57) := Decidable.of_not_not h31
        refine lv_aload_n hx hb dX5_itemAt_37 rfl (lv_at hl 0 rfl) ?_
        refine lv_iload_n hx hb dX5_itemAt_38 rfl (lv_at hl 1 rfl) ?_
        refine lv_iconst (v := nI 2) hx hb dX5_itemAt_39 (by decide) ?_
        refine lv_iadd hx hb dX5_itemAt_40 ?_
        refine lv_topi (nm_r (e' := nI (i + 2)) (nI_add _ _) ?_)
        refine lv_bipush (v := nI 45) hx hb dX5_itemAt_41 (by decide) ?_
        refine zrdV (As := [.int (nI (i + 2)), .int (nI 45)]) ⟨hx, hb, hml, hown, hts⟩ (kX5_isAt l G m σ V ζ ns x len B (i + 2) 45 (hlen) (htx) (by omega) (by omega)) (cwV 2 hts gX5_itemAt_X5_isAt rfl rfl rfl (by decide +kernel) ⟨Nat.le_of_ble_eq_true rfl, Nat.le_of_ble_eq_true rfl⟩) hG (va_recv (q0 := 0) (ci := 5) hG.1 hP rfl rfl) (hP) rfl rfl hl.1 dX5_itemAt_43 (Nat.le_of_ble_eq_true rfl) ⟨Nat.le_of_ble_eq_true rfl, Nat.le_of_ble_eq_true rfl⟩ ?_
        refine lv_if_eq (tgt := 68) hx hb dX5_itemAt_46 (by decide) (fun h46 => ?_) (fun h46 => ?_)
        · skip
          have h46 : ¬ ((i + 2) < len ∧ x (i + 2) = 45) := (z_b0).mp h46
          refine lv_aload_n hx hb dX5_itemAt_68 rfl (lv_at hl 0 rfl) ?_
          refine lv_iload_n hx hb dX5_itemAt_69 rfl (lv_at hl 1 rfl) ?_
          refine lv_iconst (v := nI 2) hx hb dX5_itemAt_70 (by decide) ?_
          refine lv_iadd hx hb dX5_itemAt_71 ?_
          refine lv_topi (nm_r (e' := nI (i + 2)) (nI_add _ _) ?_)
          refine lv_bipush (v := nI 61) hx hb dX5_itemAt_72 (by decide) ?_
          refine zrdV (As := [.int (nI (i + 2)), .int (nI 61)]) ⟨hx, hb, hml, hown, hts⟩ (kX5_isAt l G m σ V ζ ns x len B (i + 2) 61 (hlen) (htx) (by omega) (by omega)) (cwV 2 hts gX5_itemAt_X5_isAt rfl rfl rfl (by decide +kernel) ⟨Nat.le_of_ble_eq_true rfl, Nat.le_of_ble_eq_true rfl⟩) hG (va_recv (q0 := 0) (ci := 5) hG.1 hP rfl rfl) (hP) rfl rfl hl.1 dX5_itemAt_74 (Nat.le_of_ble_eq_true rfl) ⟨Nat.le_of_ble_eq_true rfl, Nat.le_of_ble_eq_true rfl⟩ ?_
          refine lv_if_ne (tgt := 83) hx hb dX5_itemAt_77 (by decide) (fun h77 => ?_) (fun h77 => ?_)
          · skip
            have h77 : ¬ (¬ ((i + 2) < len ∧ x (i + 2) = 61)) := fun q => h77 ((z_b0).mpr q)
            have h77 : (i + 2) < len ∧ x (i + 2) = 61 := Decidable.of_not_not h77
            refine lv_aload_n hx hb dX5_itemAt_83 rfl (lv_at hl 0 rfl) ?_
            refine lv_iload_n hx hb dX5_itemAt_84 rfl (lv_at hl 1 rfl) ?_
            refine lv_iconst (v := nI 3) hx hb dX5_itemAt_85 (by decide) ?_
            refine lv_iadd hx hb dX5_itemAt_86 ?_
            refine lv_topi (nm_r (e' := nI (i + 3)) (nI_add _ _) ?_)
            refine zrdV (As := [.int (nI (i + 3))]) ⟨hx, hb, hml, hown, hts⟩ (kX5_isDigit l G m σ V ζ ns x len B (i + 3) (hlen) (htx) (by omega)) (cwV 1 hts gX5_itemAt_X5_isDigit rfl rfl rfl (by decide +kernel) ⟨Nat.le_of_ble_eq_true rfl, Nat.le_of_ble_eq_true rfl⟩) hG (va_recv (q0 := 0) (ci := 5) hG.1 hP rfl rfl) (hP) rfl rfl hl.1 dX5_itemAt_87 (Nat.le_of_ble_eq_true rfl) ⟨Nat.le_of_ble_eq_true rfl, Nat.le_of_ble_eq_true rfl⟩ ?_
            refine lv_if_ne (tgt := 98) hx hb dX5_itemAt_90 (by decide) (fun h90 => ?_) (fun h90 => ?_)
            · skip
              have h90 : ¬ (¬ ((i + 3) < len ∧ (48 ≤ x (i + 3) ∧ x (i + 3) ≤ 57))) := fun q => h90 ((z_b0).mpr q)
              have h90 : (i + 3) < len ∧ (48 ≤ x (i + 3) ∧ x (i + 3) ≤ 57) := Decidable.of_not_not h90
              refine lv_aload_n hx hb dX5_itemAt_98 rfl (lv_at hl 0 rfl) ?_
              refine lv_iload_n hx hb dX5_itemAt_99 rfl (lv_at hl 1 rfl) ?_
              refine lv_iconst (v := nI 4) hx hb dX5_itemAt_100 (by decide) ?_
              refine lv_iadd hx hb dX5_itemAt_101 ?_
              refine lv_topi (nm_r (e' := nI (i + 4)) (nI_add _ _) ?_)
              refine lv_bipush (v := nI 59) hx hb dX5_itemAt_102 (by decide) ?_
              refine zrdV (As := [.int (nI (i + 4)), .int (nI 59)]) ⟨hx, hb, hml, hown, hts⟩ (kX5_isAt l G m σ V ζ ns x len B (i + 4) 59 (hlen) (htx) (by omega) (by omega)) (cwV 2 hts gX5_itemAt_X5_isAt rfl rfl rfl (by decide +kernel) ⟨Nat.le_of_ble_eq_true rfl, Nat.le_of_ble_eq_true rfl⟩) hG (va_recv (q0 := 0) (ci := 5) hG.1 hP rfl rfl) (hP) rfl rfl hl.1 dX5_itemAt_104 (Nat.le_of_ble_eq_true rfl) ⟨Nat.le_of_ble_eq_true rfl, Nat.le_of_ble_eq_true rfl⟩ ?_
              refine lv_if_eq (tgt := 114) hx hb dX5_itemAt_107 (by decide) (fun h107 => ?_) (fun h107 => ?_)
              · skip
                have h107 : ¬ ((i + 4) < len ∧ x (i + 4) = 59) := (z_b0).mp h107
                refine lv_bipush (v := (-5)) hx hb dX5_itemAt_114 (by decide) ?_
                exact hret _ _ _ dX5_itemAt_116 (by rw [show itm x len i = 4 by unfold itm; rw [if_neg (fun q => q.elim h5 h19), if_pos h31, if_neg h46, if_pos h77, if_pos h90, if_neg h107]]; rfl)
              · skip
                have h107 : ¬ (¬ ((i + 4) < len ∧ x (i + 4) = 59)) := fun q => h107 ((z_b0).mpr q)
                have h107 : (i + 4) < len ∧ x (i + 4) = 59 := Decidable.of_not_not h107
                refine lv_iconst (v := nI 5) hx hb dX5_itemAt_110 (by decide) ?_
                refine lv_goto (tgt := 116) hx hb dX5_itemAt_111 (by decide) ?_
                exact hret _ _ _ dX5_itemAt_116 (by rw [show itm x len i = 11 by unfold itm; rw [if_neg (fun q => q.elim h5 h19), if_pos h31, if_neg h46, if_pos h77, if_pos h90, if_pos h107]]; rfl)
            · skip
              have h90 : ¬ ((i + 3) < len ∧ (48 ≤ x (i + 3) ∧ x (i + 3) ≤ 57)) := (z_b0).mp h90
              refine lv_bipush (v := (-4)) hx hb dX5_itemAt_93 (by decide) ?_
              refine lv_goto (tgt := 116) hx hb dX5_itemAt_95 (by decide) ?_
              exact hret _ _ _ dX5_itemAt_116 (by rw [show itm x len i = 3 by unfold itm; rw [if_neg (fun q => q.elim h5 h19), if_pos h31, if_neg h46, if_pos h77, if_neg h90]]; rfl)
          · skip
            have h77 : ¬ ((i + 2) < len ∧ x (i + 2) = 61) := (z_b0).mp h77
            refine lv_bipush (v := (-3)) hx hb dX5_itemAt_80 (by decide) ?_
            exact hret _ _ _ dX5_itemAt_82 (by rw [show itm x len i = 2 by unfold itm; rw [if_neg (fun q => q.elim h5 h19), if_pos h31, if_neg h46, if_neg h77]]; rfl)
        · skip
          have h46 : ¬ (¬ ((i + 2) < len ∧ x (i + 2) = 45)) := fun q => h46 ((z_b0).mpr q)
          have h46 : (i + 2) < len ∧ x (i + 2) = 45 := Decidable.of_not_not h46
          refine lv_aload_n hx hb dX5_itemAt_49 rfl (lv_at hl 0 rfl) ?_
          refine lv_iload_n hx hb dX5_itemAt_50 rfl (lv_at hl 1 rfl) ?_
          refine lv_iconst (v := nI 3) hx hb dX5_itemAt_51 (by decide) ?_
          refine lv_iadd hx hb dX5_itemAt_52 ?_
          refine lv_topi (nm_r (e' := nI (i + 3)) (nI_add _ _) ?_)
          refine lv_bipush (v := nI 59) hx hb dX5_itemAt_53 (by decide) ?_
          refine zrdV (As := [.int (nI (i + 3)), .int (nI 59)]) ⟨hx, hb, hml, hown, hts⟩ (kX5_isAt l G m σ V ζ ns x len B (i + 3) 59 (hlen) (htx) (by omega) (by omega)) (cwV 2 hts gX5_itemAt_X5_isAt rfl rfl rfl (by decide +kernel) ⟨Nat.le_of_ble_eq_true rfl, Nat.le_of_ble_eq_true rfl⟩) hG (va_recv (q0 := 0) (ci := 5) hG.1 hP rfl rfl) (hP) rfl rfl hl.1 dX5_itemAt_55 (Nat.le_of_ble_eq_true rfl) ⟨Nat.le_of_ble_eq_true rfl, Nat.le_of_ble_eq_true rfl⟩ ?_
          refine lv_if_eq (tgt := 65) hx hb dX5_itemAt_58 (by decide) (fun h58 => ?_) (fun h58 => ?_)
          · skip
            have h58 : ¬ ((i + 3) < len ∧ x (i + 3) = 59) := (z_b0).mp h58
            refine lv_bipush (v := (-4)) hx hb dX5_itemAt_65 (by decide) ?_
            exact hret _ _ _ dX5_itemAt_67 (by rw [show itm x len i = 3 by unfold itm; rw [if_neg (fun q => q.elim h5 h19), if_pos h31, if_pos h46, if_neg h58]]; rfl)
          · skip
            have h58 : ¬ (¬ ((i + 3) < len ∧ x (i + 3) = 59)) := fun q => h58 ((z_b0).mpr q)
            have h58 : (i + 3) < len ∧ x (i + 3) = 59 := Decidable.of_not_not h58
            refine lv_iconst (v := nI 4) hx hb dX5_itemAt_61 (by decide) ?_
            refine lv_goto (tgt := 67) hx hb dX5_itemAt_62 (by decide) ?_
            exact hret _ _ _ dX5_itemAt_67 (by rw [show itm x len i = 10 by unfold itm; rw [if_neg (fun q => q.elim h5 h19), if_pos h31, if_pos h46, if_pos h58]]; rfl)
      · skip
        have h31 : ¬ ((i + 1) < len ∧ (48 ≤ x (i + 1) ∧ x (i + 1) ≤ 57)) := (z_b0).mp h31
        refine lv_bipush (v := (-2)) hx hb dX5_itemAt_34 (by decide) ?_
        exact hret _ _ _ dX5_itemAt_36 (by rw [show itm x len i = 1 by unfold itm; rw [if_neg (fun q => q.elim h5 h19), if_neg h31]]; rfl)
    · skip
      have h19 : sdN (x i) = 4 := (zc_m4 (by omega)).mp h19
      refine lv_iconst (v := (-1)) hx hb dX5_itemAt_22 (by decide) ?_
      exact hret _ _ _ dX5_itemAt_23 (by rw [show itm x len i = 0 by unfold itm; rw [if_pos (Or.inr h19)]]; rfl)
set_option maxHeartbeats 4000000 in
set_option maxRecDepth 100000 in
theorem kX5_faultAt (l : Launch) (G : zG) (m : Nat → Nat) (σ : Nat → Nat) (V : Nat → Nat → Nat) (ζ : Nat → Nat) (ns : Nat) (x : Nat → Nat) (len : Nat) (B : Nat → Int32)  (hlen : len ≤ 100) (htx : ∀ i, i < 100 → x i < 65536) : Met l yX5_faultAt wsX5_faultAt (zRm 3 64) (zPc G [.ref (m 0)] (va_P G.1 vwCl (wM G m σ V ζ ns x len B))) (zS (.int (zc 200 (flt x len)))) 0 0 (fun _ => False) := by
  refine zmkI (cc := cX5_faultAt) (maxL := 3) (by decide) rfl (Nat.le_of_ble_eq_true rfl) ?_
  intro pr en st mi ar bl me cd ls Q hx hb hml hown hts hG hP hl hret
  have hown : st.vm.findClass RX5 = some mi.cls := hown
  have hl : lv_has ls 3 [(0, .ref (m 0))] := hl
  have hP : va_P G.1 vwCl (wM G m σ V ζ ns x len B) st.heap := hP
  have hinX5 : ∀ w ∈ wsX50, w ∈ wsX5_faultAt := by decide +kernel
  have hf157 := hts (.fieldLink RX5 157 "MapSheetsModel" "typed" "I") (by decide +kernel)
  refine lv_iconst (v := nI 0) hx hb dX5_faultAt_0 (by decide) ?_
  refine lv_istore_n (lv' := [(1, .int (nI 0)), (0, .ref (m 0))]) hx hb dX5_faultAt_1 rfl hl (by decide) rfl (fun ls hl => ?_)
  have loop2 : ∀ (n : Nat) (i : Nat) (hs0 : stt x i = 0) (hz : ∀ j, j < i → stt x (j + 1) ≠ 5) (hi : i ≤ len) (hn : len < i + n) (ls : Array Slot) (hl : lv_has ls 3 [(0, .ref (m 0)), (1, .int (nI i))]), W pr l en (zRm 3 64) st mi ar bl me cd st.heap [] 0 0 Q (F0 mi 2 ls []) := by
    intro n
    induction n with
    | zero => intro i hs0 hz hi hn ls hl; exfalso; omega
    | succ n ih2 =>
      intro i hs0 hz hi hn ls hl
      refine lv_iload_n hx hb dX5_faultAt_2 rfl (lv_at hl 1 rfl) ?_
      refine lv_aload_n hx hb dX5_faultAt_3 rfl (lv_at hl 0 rfl) ?_
      refine va_get (D := G.1) (ci := 5) (v := .int (nI len)) (C := RX5) (T := TX5) (N := 7) hx hb hts hinX5 hown hG.1 hP 0 rfl rfl 5 (by decide) hf157 (fun _ h9 => h9) rfl dX5_faultAt_4 ?_
      refine lv_icmp_ge (tgt := 33) hx hb dX5_faultAt_7 (by decide) (fun h7 => ?_) (fun h7 => ?_)
      · skip
        have h7 : len ≤ i := (nI_leI (by omega) (by omega)).mp h7
        refine lv_bipush (v := (-4)) hx hb dX5_faultAt_33 (by decide) ?_
        exact hret _ _ _ dX5_faultAt_35 (by obtain rfl : i = len := (by omega); rw [flt_end hz, if_pos hs0, zc_b])
      · skip
        have h7 : ¬ (len ≤ i) := fun q => h7 ((nI_leI (by omega) (by omega)).mpr q)
        refine lv_aload_n hx hb dX5_faultAt_10 rfl (lv_at hl 0 rfl) ?_
        refine lv_iload_n hx hb dX5_faultAt_11 rfl (lv_at hl 1 rfl) ?_
        refine zrdV (As := [.int (nI i)]) ⟨hx, hb, hml, hown, hts⟩ (kX5_itemAt l G m σ V ζ ns x len B i (hlen) (htx) (by omega)) (cwV 1 hts gX5_faultAt_X5_itemAt rfl rfl rfl (by decide +kernel) ⟨Nat.le_of_ble_eq_true rfl, Nat.le_of_ble_eq_true rfl⟩) hG (va_recv (q0 := 0) (ci := 5) hG.1 hP rfl rfl) (hP) rfl rfl hl.1 dX5_faultAt_12 (Nat.le_of_ble_eq_true rfl) ⟨Nat.le_of_ble_eq_true rfl, Nat.le_of_ble_eq_true rfl⟩ ?_
        rcases itm_spec hs0 (show i < len by omega) hz with q | q | q
        · skip
          obtain ⟨e1, e2, e3, e4, e5, e6⟩ := q
          rw [show itR (itm x len i) = nI 4 by rw [e1]; rfl]
          have hz4 : ∀ j, j < i + 4 → stt x (j + 1) ≠ 5 := fun j hj => by rcases (show j < i ∨ j = i ∨ j = i + 1 ∨ j = i + 2 ∨ j = i + 3 by omega) with z | z | z | z | z; exact hz j z; (rw [z]; exact ne5 e3 (by decide)); (rw [z]; exact ne5 e4 (by decide)); (rw [z]; exact ne5 e5 (by decide)); (rw [z]; exact ne5 e6 (by decide))
          refine lv_istore_n (lv' := [(2, .int (nI 4)), (0, .ref (m 0)), (1, .int (nI i))]) hx hb dX5_faultAt_15 rfl hl (by decide) rfl (fun ls hl => ?_)
          refine lv_iload_n hx hb dX5_faultAt_16 rfl (lv_at hl 0 rfl) ?_
          refine lv_if_ge (tgt := 26) hx hb dX5_faultAt_17 (by decide) (fun h17 => ?_) (fun h17 => ?_)
          · skip
            have h17 : True := (z_ge0 (by omega)).mp h17
            refine lv_iload_n hx hb dX5_faultAt_26 rfl (lv_at hl 2 rfl) ?_
            refine lv_iload_n hx hb dX5_faultAt_27 rfl (lv_at hl 0 rfl) ?_
            refine lv_iadd hx hb dX5_faultAt_28 ?_
            refine lv_topi (nm_r (e' := nI (i + 4)) (nI_add _ _) ?_)
            refine lv_istore_n (lv' := [(1, .int (nI (i + 4))), (2, .int (nI 4)), (0, .ref (m 0))]) hx hb dX5_faultAt_29 rfl hl (by decide) rfl (fun ls hl => ?_)
            refine lv_goto (tgt := 2) hx hb dX5_faultAt_30 (by decide) ?_
            exact ih2 (i + 4) (e6) (hz4) (by omega) (by omega) _ (lv_sub hl [2, 0] rfl)
          · skip
            have h17 : ¬ (True) := fun q => h17 ((z_ge0 (by omega)).mpr q)
            exact absurd h17 (by decide)
        · skip
          obtain ⟨e1, e2, e3, e4, e5, e6, e7⟩ := q
          rw [show itR (itm x len i) = nI 5 by rw [e1]; rfl]
          have hz5 : ∀ j, j < i + 5 → stt x (j + 1) ≠ 5 := fun j hj => by rcases (show j < i ∨ j = i ∨ j = i + 1 ∨ j = i + 2 ∨ j = i + 3 ∨ j = i + 4 by omega) with z | z | z | z | z | z; exact hz j z; (rw [z]; exact ne5 e3 (by decide)); (rw [z]; exact ne5 e4 (by decide)); (rw [z]; exact ne5 e5 (by decide)); (rw [z]; exact ne5 e6 (by decide)); (rw [z]; exact ne5 e7 (by decide))
          refine lv_istore_n (lv' := [(2, .int (nI 5)), (0, .ref (m 0)), (1, .int (nI i))]) hx hb dX5_faultAt_15 rfl hl (by decide) rfl (fun ls hl => ?_)
          refine lv_iload_n hx hb dX5_faultAt_16 rfl (lv_at hl 0 rfl) ?_
          refine lv_if_ge (tgt := 26) hx hb dX5_faultAt_17 (by decide) (fun h17 => ?_) (fun h17 => ?_)
          · skip
            have h17 : True := (z_ge0 (by omega)).mp h17
            refine lv_iload_n hx hb dX5_faultAt_26 rfl (lv_at hl 2 rfl) ?_
            refine lv_iload_n hx hb dX5_faultAt_27 rfl (lv_at hl 0 rfl) ?_
            refine lv_iadd hx hb dX5_faultAt_28 ?_
            refine lv_topi (nm_r (e' := nI (i + 5)) (nI_add _ _) ?_)
            refine lv_istore_n (lv' := [(1, .int (nI (i + 5))), (2, .int (nI 5)), (0, .ref (m 0))]) hx hb dX5_faultAt_29 rfl hl (by decide) rfl (fun ls hl => ?_)
            refine lv_goto (tgt := 2) hx hb dX5_faultAt_30 (by decide) ?_
            exact ih2 (i + 5) (e7) (hz5) (by omega) (by omega) _ (lv_sub hl [2, 0] rfl)
          · skip
            have h17 : ¬ (True) := fun q => h17 ((z_ge0 (by omega)).mpr q)
            exact absurd h17 (by decide)
        · obtain ⟨e1, e2⟩ := q
          rcases (show itm x len i = 0 ∨ itm x len i = 1 ∨ itm x len i = 2 ∨ itm x len i = 3 ∨ itm x len i = 4 by omega) with q | q | q | q | q
          · rw [show itR (itm x len i) = (-1) by rw [q]; rfl]
            refine lv_istore_n (lv' := [(2, .int (-1)), (0, .ref (m 0)), (1, .int (nI i))]) hx hb dX5_faultAt_15 rfl hl (by decide) rfl (fun ls hl => ?_)
            refine lv_iload_n hx hb dX5_faultAt_16 rfl (lv_at hl 0 rfl) ?_
            refine lv_if_ge (tgt := 26) hx hb dX5_faultAt_17 (by decide) (fun h17 => ?_) (fun h17 => ?_)
            · skip
              exact absurd h17 (by decide)
            · skip
              refine lv_iload_n hx hb dX5_faultAt_20 rfl (lv_at hl 2 rfl) ?_
              refine lv_iload_n hx hb dX5_faultAt_21 rfl (lv_at hl 0 rfl) ?_
              refine lv_isub hx hb dX5_faultAt_22 ?_
              refine lv_iconst (v := nI 1) hx hb dX5_faultAt_23 (by decide) ?_
              refine lv_isub hx hb dX5_faultAt_24 ?_
              exact hret _ _ _ dX5_faultAt_25 (by rw [e2, q, zc_n (by omega)]; exact z_s5 i 0 (-1) (by decide))
          · rw [show itR (itm x len i) = (-2) by rw [q]; rfl]
            refine lv_istore_n (lv' := [(2, .int (-2)), (0, .ref (m 0)), (1, .int (nI i))]) hx hb dX5_faultAt_15 rfl hl (by decide) rfl (fun ls hl => ?_)
            refine lv_iload_n hx hb dX5_faultAt_16 rfl (lv_at hl 0 rfl) ?_
            refine lv_if_ge (tgt := 26) hx hb dX5_faultAt_17 (by decide) (fun h17 => ?_) (fun h17 => ?_)
            · skip
              exact absurd h17 (by decide)
            · skip
              refine lv_iload_n hx hb dX5_faultAt_20 rfl (lv_at hl 2 rfl) ?_
              refine lv_iload_n hx hb dX5_faultAt_21 rfl (lv_at hl 0 rfl) ?_
              refine lv_isub hx hb dX5_faultAt_22 ?_
              refine lv_iconst (v := nI 1) hx hb dX5_faultAt_23 (by decide) ?_
              refine lv_isub hx hb dX5_faultAt_24 ?_
              exact hret _ _ _ dX5_faultAt_25 (by rw [e2, q, zc_n (by omega)]; exact z_s5 i 1 (-2) (by decide))
          · rw [show itR (itm x len i) = (-3) by rw [q]; rfl]
            refine lv_istore_n (lv' := [(2, .int (-3)), (0, .ref (m 0)), (1, .int (nI i))]) hx hb dX5_faultAt_15 rfl hl (by decide) rfl (fun ls hl => ?_)
            refine lv_iload_n hx hb dX5_faultAt_16 rfl (lv_at hl 0 rfl) ?_
            refine lv_if_ge (tgt := 26) hx hb dX5_faultAt_17 (by decide) (fun h17 => ?_) (fun h17 => ?_)
            · skip
              exact absurd h17 (by decide)
            · skip
              refine lv_iload_n hx hb dX5_faultAt_20 rfl (lv_at hl 2 rfl) ?_
              refine lv_iload_n hx hb dX5_faultAt_21 rfl (lv_at hl 0 rfl) ?_
              refine lv_isub hx hb dX5_faultAt_22 ?_
              refine lv_iconst (v := nI 1) hx hb dX5_faultAt_23 (by decide) ?_
              refine lv_isub hx hb dX5_faultAt_24 ?_
              exact hret _ _ _ dX5_faultAt_25 (by rw [e2, q, zc_n (by omega)]; exact z_s5 i 2 (-3) (by decide))
          · rw [show itR (itm x len i) = (-4) by rw [q]; rfl]
            refine lv_istore_n (lv' := [(2, .int (-4)), (0, .ref (m 0)), (1, .int (nI i))]) hx hb dX5_faultAt_15 rfl hl (by decide) rfl (fun ls hl => ?_)
            refine lv_iload_n hx hb dX5_faultAt_16 rfl (lv_at hl 0 rfl) ?_
            refine lv_if_ge (tgt := 26) hx hb dX5_faultAt_17 (by decide) (fun h17 => ?_) (fun h17 => ?_)
            · skip
              exact absurd h17 (by decide)
            · skip
              refine lv_iload_n hx hb dX5_faultAt_20 rfl (lv_at hl 2 rfl) ?_
              refine lv_iload_n hx hb dX5_faultAt_21 rfl (lv_at hl 0 rfl) ?_
              refine lv_isub hx hb dX5_faultAt_22 ?_
              refine lv_iconst (v := nI 1) hx hb dX5_faultAt_23 (by decide) ?_
              refine lv_isub hx hb dX5_faultAt_24 ?_
              exact hret _ _ _ dX5_faultAt_25 (by rw [e2, q, zc_n (by omega)]; exact z_s5 i 3 (-4) (by decide))
          · rw [show itR (itm x len i) = (-5) by rw [q]; rfl]
            refine lv_istore_n (lv' := [(2, .int (-5)), (0, .ref (m 0)), (1, .int (nI i))]) hx hb dX5_faultAt_15 rfl hl (by decide) rfl (fun ls hl => ?_)
            refine lv_iload_n hx hb dX5_faultAt_16 rfl (lv_at hl 0 rfl) ?_
            refine lv_if_ge (tgt := 26) hx hb dX5_faultAt_17 (by decide) (fun h17 => ?_) (fun h17 => ?_)
            · skip
              exact absurd h17 (by decide)
            · skip
              refine lv_iload_n hx hb dX5_faultAt_20 rfl (lv_at hl 2 rfl) ?_
              refine lv_iload_n hx hb dX5_faultAt_21 rfl (lv_at hl 0 rfl) ?_
              refine lv_isub hx hb dX5_faultAt_22 ?_
              refine lv_iconst (v := nI 1) hx hb dX5_faultAt_23 (by decide) ?_
              refine lv_isub hx hb dX5_faultAt_24 ?_
              exact hret _ _ _ dX5_faultAt_25 (by rw [e2, q, zc_n (by omega)]; exact z_s5 i 4 (-5) (by decide))
  exact loop2 (len + 1) 0 (rfl) (fun j hj => absurd hj (Nat.not_lt_zero j)) (by omega) (by omega) _ (lv_sub hl [1, 0] rfl)
set_option maxHeartbeats 4000000 in
set_option maxRecDepth 100000 in
theorem kX5_fault (l : Launch) (G : zG) (m : Nat → Nat) (σ : Nat → Nat) (V : Nat → Nat → Nat) (ζ : Nat → Nat) (ns : Nat) (x : Nat → Nat) (len : Nat) (B : Nat → Int32)  (hlen : len ≤ 100) (htx : ∀ i, i < 100 → x i < 65536) : Met l yX5_fault wsX5_fault (zRm 4 86) (zPc G [.ref (m 0)] (va_P G.1 vwCl (wM G m σ V ζ ns x len B))) (zS (.int (zc 200 (flt x len)))) 0 0 (fun _ => False) := by
  refine zmkI (cc := cX5_fault) (maxL := 1) (by decide) rfl (Nat.le_of_ble_eq_true rfl) ?_
  intro pr en st mi ar bl me cd ls Q hx hb hml hown hts hG hP hl hret
  have hown : st.vm.findClass RX5 = some mi.cls := hown
  have hl : lv_has ls 1 [(0, .ref (m 0))] := hl
  have hP : va_P G.1 vwCl (wM G m σ V ζ ns x len B) st.heap := hP
  refine lv_aload_n hx hb dX5_fault_0 rfl (lv_at hl 0 rfl) ?_
  refine zrdV (As := []) ⟨hx, hb, hml, hown, hts⟩ (kX5_faultAt l G m σ V ζ ns x len B (hlen) (htx)) (cwV 0 hts gX5_fault_X5_faultAt rfl rfl rfl (by decide +kernel) ⟨Nat.le_of_ble_eq_true rfl, Nat.le_of_ble_eq_true rfl⟩) hG (va_recv (q0 := 0) (ci := 5) hG.1 hP rfl rfl) (hP) rfl rfl hl.1 dX5_fault_1 (Nat.le_of_ble_eq_true rfl) ⟨Nat.le_of_ble_eq_true rfl, Nat.le_of_ble_eq_true rfl⟩ ?_
  exact hret _ _ _ dX5_fault_4 (rfl)
