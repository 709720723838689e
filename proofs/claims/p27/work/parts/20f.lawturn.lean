/-! what the law's turns keep to: N is one more than the turns so far -/
def Jv (N : Nat) (σ : Nat → Nat) (o n : Nat) : Prop := Ok N σ ∧ Cln σ ∧ o < 5 ∧ n ≤ 4 ∧ Sml σ
theorem jO {o n : Nat} (h : o < 5) : nO o n < 5 := by show (if n < 4 then o else (o + 1) % 5) < 5; split <;> omega
theorem jN {n : Nat} (h : n ≤ 4) : nN n ≤ 4 := by show (if n < 4 then n + 1 else n) ≤ 4; split <;> omega
theorem Sml.su {σ : Nat → Nat} (h : Sml σ) {i v : Nat} (hi : 2 ≤ i) : Sml (su σ i v) := ⟨by rw [su_ne σ v (show 0 ≠ i by omega)]; exact h.1, by rw [su_ne σ v (show 1 ≠ i by omega)]; exact h.2⟩
theorem Sml.lo {σ τ : Nat → Nat} (h : Sml σ) (h0 : τ 0 = σ 0) (h1 : τ 1 = σ 1) : Sml τ := ⟨by rw [h0]; exact h.1, by rw [h1]; exact h.2⟩
theorem gF_lo {σ τ : Nat → Nat} (h : ∀ j, j < 64 → τ j = σ j) : ∀ j, j < 5 → gF σ j = gF τ j := fun j hj => by
  have e : agM τ = agM σ := sm_congr fun e he => by
    show agn τ e * 2 ^ e = agn σ e * 2 ^ e
    rw [show agn τ e = agn σ e from h (4 + e) (by omega)]
  unfold gF
  rw [e, h j (by omega)]
/-! one sign changed -/
theorem sgx_r {k d p : Nat} (hd : d < 4) (hp : p < 10) : ∀ x, 114 + 53 * x ≠ 64 + 53 * k + (10 * d + p) ∧ 115 + 53 * x ≠ 64 + 53 * k + (10 * d + p) ∧ 116 + 53 * x ≠ 64 + 53 * k + (10 * d + p) := fun x => by
  have h : 10 * d + p < 40 := by omega
  generalize 10 * d + p = y at h ⊢
  omega
theorem sgx_b {k d p : Nat} (hd : d < 4) (hp : p < 10) : ∀ i y, y < 10 → 104 + 53 * i + y ≠ 64 + 53 * k + (10 * d + p) := fun i y hy => by
  have h : 10 * d + p < 40 := by omega
  generalize 10 * d + p = z at h ⊢
  omega
theorem sg_g (σ : Nat → Nat) (k d p v : Nat) : ∀ j, j < 5 → gF σ j = gF (su σ (64 + 53 * k + (10 * d + p)) v) j := fun j hj => (gF_ne σ v (by omega) j hj).symm
theorem sg_r (σ : Nat → Nat) {k d p : Nat} (hd : d < 4) (hp : p < 10) (v : Nat) : ∀ j, j < 18 → rF σ j = rF (su σ (64 + 53 * k + (10 * d + p)) v) j := fun j _ => (congrFun (rF_ne σ v (sgx_r hd hp)) j).symm
theorem sg_a (σ : Nat → Nat) {k d p : Nat} (hd : d < 4) (hp : p < 10) (v : Nat) : ∀ j, j < 24 → vp_updL (aF σ) (4 * k + d) (lN (aN (su σ (64 + 53 * k + (10 * d + p)) v) k d)) j = aF (su σ (64 + 53 * k + (10 * d + p)) v) j := fun j _ => congrFun (aF_sg σ hd hp v) j
theorem sg_b (σ : Nat → Nat) {k d p : Nat} (hd : d < 4) (hp : p < 10) (v : Nat) : ∀ j, j < 6 → bF σ j = bF (su σ (64 + 53 * k + (10 * d + p)) v) j := fun j _ => (congrFun (bF_ne σ v (sgx_b hd hp)) j).symm
theorem sg_back (σ : Nat → Nat) {k d p : Nat} (hd : d < 4) (hp : p < 10) (v : Nat) : ∀ j, j < 24 → vp_updL (aF (su σ (64 + 53 * k + (10 * d + p)) v)) (4 * k + d) (lN (aN σ k d)) j = aF σ j := fun j _ => by
  rw [← aF_sg σ hd hp v]
  unfold vp_updL
  by_cases q : j = 4 * k + d
  · rw [if_pos q, q, aF_at σ hd]
  · rw [if_neg q, if_neg q]
theorem own_sg (σ : Nat → Nat) {k d p : Nat} (hd : d < 4) (hp : p < 10) (v : Nat) : Own k σ (su σ (64 + 53 * k + (10 * d + p)) v) := own_su (own_rf k σ) (by omega)
/-! one meaning changed -/
theorem mnx_a {k c : Nat} (hc : c < 10) : ∀ i y, y < 40 → 64 + 53 * i + y ≠ 104 + 53 * k + c := fun i y hy => by omega
theorem mn_g (σ : Nat → Nat) (k c v : Nat) : ∀ j, j < 5 → gF σ j = gF (su σ (104 + 53 * k + c) v) j := fun j hj => (gF_ne σ v (by omega) j hj).symm
theorem mn_r (σ : Nat → Nat) {k c : Nat} (hc : c < 10) (v : Nat) : ∀ j, j < 18 → rF σ j = rF (su σ (104 + 53 * k + c) v) j := fun j _ => (congrFun (rF_ne σ v (fun x => by omega)) j).symm
theorem mn_a (σ : Nat → Nat) {k c : Nat} (hc : c < 10) (v : Nat) : ∀ j, j < 24 → aF σ j = aF (su σ (104 + 53 * k + c) v) j := fun j _ => (congrFun (aF_ne σ v (mnx_a hc)) j).symm
theorem mn_b (σ : Nat → Nat) {k c : Nat} (hc : c < 10) (v : Nat) : ∀ j, j < 6 → vp_updL (bF σ) k (lN (bN (su σ (104 + 53 * k + c) v) k)) j = bF (su σ (104 + 53 * k + c) v) j := fun j _ => congrFun (bF_mn σ hc v) j
theorem mn_back (σ : Nat → Nat) {k c : Nat} (hc : c < 10) (v : Nat) : ∀ j, j < 6 → vp_updL (bF (su σ (104 + 53 * k + c) v)) k (lN (bN σ k)) j = bF σ j := fun j _ => by
  rw [← bF_mn σ hc v]
  unfold vp_updL
  by_cases q : j = k
  · rw [if_pos q, q]
    rfl
  · rw [if_neg q, if_neg q]
theorem own_mn (σ : Nat → Nat) {k c : Nat} (hc : c < 10) (v : Nat) : Own k σ (su σ (104 + 53 * k + c) v) := own_su (own_rf k σ) (by omega)
/-! other places: below 64, revisions, published, scales -/
theorem lo_r (σ : Nat → Nat) {i : Nat} (hi : i < 64) (v : Nat) : ∀ j, j < 18 → rF σ j = rF (su σ i v) j := fun j _ => (congrFun (rF_ne σ v (fun x => by omega)) j).symm
theorem lo_a (σ : Nat → Nat) {i : Nat} (hi : i < 64) (v : Nat) : ∀ j, j < 24 → aF σ j = aF (su σ i v) j := fun j _ => (congrFun (aF_ne σ v (fun i y hy => by omega)) j).symm
theorem lo_b (σ : Nat → Nat) {i : Nat} (hi : i < 64) (v : Nat) : ∀ j, j < 6 → bF σ j = bF (su σ i v) j := fun j _ => (congrFun (bF_ne σ v (fun i y hy => by omega)) j).symm
theorem hi_a (σ : Nat → Nat) {k t : Nat} (h : 114 ≤ t ∧ t ≤ 116) (v : Nat) : ∀ j, j < 24 → aF σ j = aF (su σ (t + 53 * k) v) j := fun j _ => (congrFun (aF_ne σ v (fun i y hy => by omega)) j).symm
theorem hi_b (σ : Nat → Nat) {k t : Nat} (h : 114 ≤ t ∧ t ≤ 116) (v : Nat) : ∀ j, j < 6 → bF σ j = bF (su σ (t + 53 * k) v) j := fun j _ => (congrFun (bF_ne σ v (fun i y hy => by omega)) j).symm
theorem hi_g (σ : Nat → Nat) {k t : Nat} (h : 114 ≤ t ∧ t ≤ 116) (v : Nat) : ∀ j, j < 5 → gF σ j = gF (su σ (t + 53 * k) v) j := fun j hj => (gF_ne σ v (by omega) j hj).symm
theorem rF_pbs (σ : Nat → Nat) {k : Nat} (hk : k < 6) : ∀ j, j < 18 → upd (rF σ) (6 + k) (zc4 (pbn σ k)) j = rF σ j := fun j _ => by
  unfold upd
  by_cases q : j = 6 + k
  · rw [if_pos q, q]
    unfold rF
    rw [if_neg (by omega), if_pos (by omega), Nat.add_sub_cancel_left]
  · rw [if_neg q]
theorem agM_or {N : Nat} {σ : Nat → Nat} (hO : Ok N σ) {e : Nat} (he : e < 7) : nI (agM σ) ||| nI (2 ^ e) = nI (agM (su σ (4 + e) 1)) := by
  have h1 := agM_up σ he 1
  have h2 := hO.ag (show e < 60 by omega)
  rw [zi_or, b_orN _ (agM_lt hO) e he, agM_bt hO he]
  congr 1
  rcases (show agn σ e = 0 ∨ agn σ e = 1 by omega) with h | h
  · rw [h] at h1 ⊢
    omega
  · rw [h] at h1 ⊢
    omega
theorem agM_sub {σ : Nat → Nat} {e : Nat} (he : e < 7) (h : agn σ e = 1) : agM (su σ (4 + e) 0) + 2 ^ e = agM σ := by
  have h1 := agM_up σ he 0
  rw [h, Nat.one_mul, Nat.zero_mul] at h1
  exact h1
/-- a change of one sheet: when it is refused, what it leaves -/
theorem rfs {N k : Nat} {σ τ : Nat → Nat} (hO : Ok N σ) (hT : Ok N τ) (hN : N + 1 < 100000) (hC : Cln σ) (hM : Sml σ) (hk : k < nS σ) (h : Own k σ τ) :
    (rfsd τ k ↔ (0 < trn τ ∧ τ 2 = 1)) ∧ endS τ k = kpS τ k ∧ Cln (endS τ k) ∧ Ok (N + 1) (endS τ k) ∧ Sml (endS τ k) ∧ Sml τ := by
  obtain ⟨l1, l2, l3, l4⟩ := lnk hO hT hN hC hk h
  have hMt : Sml τ := hM.lo (h 0 (by omega)) (h 1 (by omega))
  have h0 := trn_0 hMt.e
  have h2 := hT.2.2.1
  have hE := hT.lE
  refine ⟨⟨fun z => ?_, fun z => ?_⟩, l2, l3, l4, hMt.lo ?_ ?_, hMt⟩
  · have := l1.mp z
    exact ⟨Nat.pos_of_ne_zero fun y => by have := h0.mp y; omega, by omega⟩
  · exact l1.mpr ⟨by omega, Nat.pos_of_ne_zero fun y => by have := h0.mpr y; omega⟩
  · rw [l2]
    exact (su_ne _ _ (by omega)).trans (grs_hi τ hE.2 (by omega))
  · rw [l2]
    exact (su_ne _ _ (by omega)).trans (grs_hi τ hE.2 (by omega))
/-! settling: the rows behind it -/
section STE
variable {N k1 d1 k2 d2 : Nat} {σ : Nat → Nat}
theorem stE_lo {j : Nat} (hj : j < 64) : stE σ k1 d1 k2 d2 j = σ j := by
  unfold stE
  split
  · rw [su_ne _ _ (by omega)]
    exact stl_lo hj 10
  · exact stl_lo hj 10
theorem stl_off (hd2 : d2 < 4) (p : Nat) (hp : p ≤ 10) {t : Nat} (ht : 114 ≤ t ∧ t ≤ 116) (x : Nat) : stl σ k1 d1 k2 d2 p (t + 53 * x) = σ (t + 53 * x) := stl_own p (t + 53 * x) (fun q hq => by
  have hy : 10 * d2 + q < 40 := by omega
  generalize 10 * d2 + q = y at hy ⊢
  omega)
theorem stl_rF (hd2 : d2 < 4) : rF (stl σ k1 d1 k2 d2 10) = rF σ := by
  funext j
  unfold rF
  rw [show rvn (stl σ k1 d1 k2 d2 10) = rvn σ from funext fun x => stl_off hd2 10 (by omega) (t := 114) (by omega) x, show pbn (stl σ k1 d1 k2 d2 10) = pbn σ from funext fun x => stl_off hd2 10 (by omega) (t := 115) (by omega) x, show scn (stl σ k1 d1 k2 d2 10) = scn σ from funext fun x => stl_off hd2 10 (by omega) (t := 116) (by omega) x]
theorem stE_r (hd2 : d2 < 4) (hk2 : k2 < 6) : ∀ j, j < 18 → upd (rF σ) k2 (nI (rvn σ k2 + (if 0 < stc σ k1 d1 k2 d2 10 then 1 else 0))) j = rF (stE σ k1 d1 k2 d2) j := fun j hj => by
  have e : rvn (stl σ k1 d1 k2 d2 10) k2 = rvn σ k2 := stl_off hd2 10 (by omega) (t := 114) (by omega) k2
  unfold stE
  by_cases q : 0 < stc σ k1 d1 k2 d2 10
  · rw [if_pos q, if_pos q, ← rF_rv (stl σ k1 d1 k2 d2 10) hk2 _ j hj, e, stl_rF hd2]
  · rw [if_neg q, if_neg q, stl_rF hd2, Nat.add_zero]
    unfold upd
    by_cases z : j = k2
    · rw [if_pos z, z]
      unfold rF
      rw [if_pos hk2]
    · rw [if_neg z]
theorem stE_a (hO : Ok N σ) (hk1 : k1 < 36) (hd1 : d1 < 4) (hk2 : k2 < 36) (hd2 : d2 < 4) (hne : ¬ (k1 = k2 ∧ d1 = d2)) : ∀ j, j < 24 → vp_updL (aF σ) (4 * k2 + d2) (lN (nxt σ k1 d1 k2 d2 10)) j = aF (stE σ k1 d1 k2 d2) j := fun j hj => by
  have e : aF (stE σ k1 d1 k2 d2) = aF (stl σ k1 d1 k2 d2 10) := by
    unfold stE
    split
    · exact aF_ne _ _ (fun i y hy => by omega)
    · rfl
  rw [e, nxt_10 hO hk1 hd1 hk2 hd2 hne]
  unfold vp_updL
  by_cases q : j = 4 * k2 + d2
  · rw [if_pos q, q, aF_at _ hd2]
  · rw [if_neg q]
    unfold aF aN
    refine congrArg lN (sm_congr fun p hp => ?_)
    show sgn σ (j / 4) (j % 4) p * 11 ^ p = sgn (stl σ k1 d1 k2 d2 10) (j / 4) (j % 4) p * 11 ^ p
    have h : sgn (stl σ k1 d1 k2 d2 10) (j / 4) (j % 4) p = sgn σ (j / 4) (j % 4) p := stl_own 10 (64 + 53 * (j / 4) + (10 * (j % 4) + p)) (fun r hr => by
      intro z
      apply q
      have a1 : 10 * (j % 4) + p < 40 := by omega
      have a2 : 10 * d2 + r < 40 := by omega
      have h3 : j / 4 = k2 ∧ 10 * (j % 4) + p = 10 * d2 + r := by
        generalize 10 * (j % 4) + p = a at a1 z ⊢
        generalize 10 * d2 + r = b at a2 z ⊢
        omega
      omega)
    rw [h]
theorem stE_b (hd2 : d2 < 4) : ∀ j, j < 6 → bF σ j = bF (stE σ k1 d1 k2 d2) j := fun j hj => by
  have e : bF (stE σ k1 d1 k2 d2) = bF (stl σ k1 d1 k2 d2 10) := by
    unfold stE
    split
    · exact bF_ne _ _ (fun i y hy => by omega)
    · rfl
  rw [e]
  unfold bF bN
  exact congrArg lN <| sm_congr fun g hg => by
    show mng σ j g * 10 ^ g = mng (stl σ k1 d1 k2 d2 10) j g * 10 ^ g
    rw [stl_mg hd2 10 (Nat.le_refl _) hg]
end STE
/-! the law's search for the lowest sign of a meaning, from above -/
def fw (σ : Nat → Nat) (k w : Nat) : Nat → Nat
  | 0 => 10
  | j + 1 => if mng σ k (9 - j) = w then 9 - j else fw σ k w j
theorem fw_is (σ : Nat → Nat) (k w : Nat) : ∀ j, j ≤ 10 → (fw σ k w j = 10 ∧ ∀ g, 10 - j ≤ g → g < 10 → mng σ k g ≠ w) ∨ (10 - j ≤ fw σ k w j ∧ fw σ k w j < 10 ∧ mng σ k (fw σ k w j) = w ∧ ∀ g, 10 - j ≤ g → g < fw σ k w j → mng σ k g ≠ w) := by
  intro j
  induction j with
  | zero => exact fun _ => Or.inl ⟨rfl, fun g h1 h2 => by omega⟩
  | succ j ih =>
    intro hj
    have ih := ih (by omega)
    rw [fw]
    by_cases q : mng σ k (9 - j) = w
    · rw [if_pos q]
      exact Or.inr ⟨by omega, by omega, q, fun g h1 h2 => by omega⟩
    · rw [if_neg q]
      have key : ∀ g, 10 - (j + 1) ≤ g → ¬ 10 - j ≤ g → mng σ k g ≠ w := fun g h1 h2 => by
        rw [show g = 9 - j by omega]
        exact q
      rcases ih with ⟨a, b⟩ | ⟨a, b, c, d⟩
      · refine Or.inl ⟨a, fun g h1 h2 => ?_⟩
        by_cases z : 10 - j ≤ g
        · exact b g z h2
        · exact key g h1 z
      · refine Or.inr ⟨by omega, b, c, fun g h1 h2 => ?_⟩
        by_cases z : 10 - j ≤ g
        · exact d g z h2
        · exact key g h1 z
theorem fw_le (σ : Nat → Nat) (k w j : Nat) (hj : j ≤ 10) : fw σ k w j ≤ 10 := by
  rcases fw_is σ k w j hj with ⟨a, _⟩ | ⟨_, b, _⟩ <;> omega
theorem fw_lws (σ : Nat → Nat) (k w : Nat) : fw σ k w 10 = lws σ k w := by
  have h : lws σ k w = fst1 (fun g => decide (mng σ k g = w)) 10 := rfl
  rw [h]
  rcases fw_is σ k w 10 (Nat.le_refl _) with ⟨a, b⟩ | ⟨a, b, c, d⟩
  · rw [a]
    exact (fst1_no (f := fun g => decide (mng σ k g = w)) (n := 10) fun i hi => decide_eq_false (b i (by omega) hi)).symm
  · exact (fst1_at (f := fun g => decide (mng σ k g = w)) b (fun j hj => decide_eq_false (d j (by omega) hj)) (decide_eq_true c)).symm
theorem zdm (n : Nat) : nI n + Int32.ofInt (-1) = nI n - nI 1 := by
  rw [Int32.sub_eq_add_neg]
  rfl
theorem zdm_lt {y : Nat} (h : y < 2 ^ 30) : nI y - nI 1 < 0 ↔ y = 0 := by
  rw [Int32.lt_iff_toInt_lt, pk_sub_toInt (by omega) (by omega), show (0 : Int32).toInt = 0 by decide]
  omega
/-- which places were wanting so far -/
theorem lck_s {σ : Nat → Nat} {k1 d1 k2 n : Nat} : lck σ k1 d1 k2 (n + 1) ↔ (lck σ k1 d1 k2 n ∨ (mns σ k1 d1 n < 10 ∧ lws σ k2 (mns σ k1 d1 n) = 10)) := by
  constructor
  · intro ⟨q, h1, h2⟩
    rcases Nat.lt_succ_iff_lt_or_eq.mp h1 with z | z
    · exact Or.inl ⟨q, z, h2⟩
    · subst z
      exact Or.inr h2
  · intro h
    rcases h with ⟨q, h1, h2⟩ | h
    · exact ⟨q, by omega, h2⟩
    · exact ⟨n, by omega, h⟩
theorem aAl_s {σ : Nat → Nat} {k n : Nat} : aAl σ k (n + 1) ↔ (aAl σ k n ∧ (eO σ k n = 60 ∨ agF σ (eO σ k n) = 1)) := by
  constructor
  · intro h
    exact ⟨fun d hd => h d (by omega), h n (by omega)⟩
  · intro ⟨h1, h2⟩ d hd
    rcases Nat.lt_succ_iff_lt_or_eq.mp hd with z | z
    · exact h1 d z
    · subst z
      exact h2
theorem wL_d {A : Nat → Prop} {G : zG} {q : Nat → Nat} {σ : Nat → Nat} {f1 f2 : Nat → Int32} {f3 f4 : Nat → Int64} {w : va_W} (hD : va_D A (wL0 G q f1 f2 f3 f4 ++ w)) : va_D A (wL G q σ ++ w) := zD_map (w := wL0 G q f1 f2 f3 f4 ++ w) (w' := wL G q σ ++ w) rfl hD
