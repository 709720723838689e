/-! links: pure facts of the states (began as parts 15c, 15i, 16a, 16b of whole) -/
def grS (τ : Nat → Nat) (e : Nat) : Nat → Nat := if agn τ e = 1 ∧ 0 < qrl τ e then su τ (4 + e) 0 else τ
def grs (σ : Nat → Nat) : Nat → Nat → Nat
  | 0 => σ
  | i + 1 => grS (grs σ i) i
/-- how many of the first n edges are agreed and not clean -/
def brA (σ : Nat → Nat) (n : Nat) : Nat := sm (fun e => if agn σ e = 1 ∧ 0 < qrl σ e then 1 else 0) n
theorem mns_ag {σ : Nat → Nat} {e v : Nat} (he : e < 60) (k d p : Nat) : mns (su σ (4 + e) v) k d p = mns σ k d p := by
  unfold mns sgn mng
  rw [su_ne _ _ (by omega)]
  by_cases q : σ (64 + 53 * k + (10 * d + p)) = 10
  · rw [if_pos q, if_pos q]
  · rw [if_neg q, if_neg q, su_ne _ _ (by omega)]
theorem qrl_ag {σ : Nat → Nat} {e v : Nat} (he : e < 60) (i : Nat) : qrl (su σ (4 + e) v) i = qrl σ i := by
  unfold qrl
  refine sm_congr fun p _ => ?_
  unfold rsn
  simp only [fS_su (show 2 ≤ 4 + e by omega), sS_su (show 2 ≤ 4 + e by omega), fD_su (show 2 ≤ 4 + e by omega), sD_su (show 2 ≤ 4 + e by omega), mns_ag he]
theorem grs_q (σ : Nat → Nat) : ∀ n, n ≤ 60 → (∀ i, qrl (grs σ n) i = qrl σ i) ∧ (∀ e, n ≤ e → agn (grs σ n) e = agn σ e) ∧ (∀ j, j < 4 → grs σ n j = σ j) := by
  intro n
  induction n with
  | zero => exact fun _ => ⟨fun _ => rfl, fun _ _ => rfl, fun _ _ => rfl⟩
  | succ n ih =>
    intro hn
    obtain ⟨h1, h2, h3⟩ := ih (by omega)
    show (∀ i, qrl (grS (grs σ n) n) i = qrl σ i) ∧ (∀ e, n + 1 ≤ e → agn (grS (grs σ n) n) e = agn σ e) ∧ (∀ j, j < 4 → grS (grs σ n) n j = σ j)
    unfold grS
    split
    · refine ⟨fun i => by rw [qrl_ag (by omega), h1], fun e he => ?_, fun j hj => ?_⟩
      · unfold agn
        rw [su_ne _ _ (by omega)]
        exact h2 e (by omega)
      · rw [su_ne _ _ (by omega)]
        exact h3 j hj
    · exact ⟨h1, fun e he => h2 e (by omega), h3⟩
theorem Ok.gr {N : Nat} {σ : Nat → Nat} (h : Ok N σ) : ∀ n, n ≤ 60 → Ok N (grs σ n) := by
  intro n
  induction n with
  | zero => exact fun _ => h
  | succ n ih =>
    intro hn
    have ho := ih (by omega)
    show Ok N (grS (grs σ n) n)
    unfold grS
    split
    · exact ho.su_ag (by omega) (by omega)
    · exact ho
theorem fst1_sat {f : Nat → Bool} {n : Nat} (h : fst1 f n < n) : f (fst1 f n) = true := by
  induction n with
  | zero => omega
  | succ n ih =>
    rw [fst1] at h ⊢
    by_cases q : fst1 f n < n
    · rw [if_pos q]; exact ih q
    · rw [if_neg q] at h ⊢
      by_cases y : f n = true
      · rw [if_pos y]; exact y
      · rw [if_neg y] at h; omega
theorem stl_lo {σ : Nat → Nat} {k1 d1 k2 d2 j : Nat} (hj : j < 64) : ∀ p, stl σ k1 d1 k2 d2 p j = σ j := by
  intro p
  induction p with
  | zero => rfl
  | succ p ih =>
    rw [stl]
    unfold stS
    split
    · exact ih
    · rw [su_ne _ _ (by omega)]; exact ih
theorem rE_lo {τ σ : Nat → Nat} (h0 : τ 0 = σ 0) (h1 : τ 1 = σ 1) : rE τ = rE σ := by unfold rE; rw [h0, h1]
theorem nE_lo {τ σ : Nat → Nat} (h0 : τ 0 = σ 0) (h1 : τ 1 = σ 1) : nE τ = nE σ := by unfold nE; rw [h0, h1]
theorem nS_lo {τ σ : Nat → Nat} (h0 : τ 0 = σ 0) (h1 : τ 1 = σ 1) : nS τ = nS σ := by unfold nS; rw [h0, h1]
theorem fS_lo {τ σ : Nat → Nat} (h0 : τ 0 = σ 0) (h1 : τ 1 = σ 1) (e : Nat) : fS τ e = fS σ e := by unfold fS; rw [rE_lo h0 h1, h0]
theorem sS_lo {τ σ : Nat → Nat} (h0 : τ 0 = σ 0) (h1 : τ 1 = σ 1) (e : Nat) : sS τ e = sS σ e := by unfold sS; rw [fS_lo h0 h1, rE_lo h0 h1, h0]
theorem fD_lo {τ σ : Nat → Nat} (h0 : τ 0 = σ 0) (h1 : τ 1 = σ 1) (e : Nat) : fD τ e = fD σ e := by unfold fD; rw [rE_lo h0 h1]
theorem sD_lo {τ σ : Nat → Nat} (h0 : τ 0 = σ 0) (h1 : τ 1 = σ 1) (e : Nat) : sD τ e = sD σ e := by unfold sD; rw [rE_lo h0 h1]
theorem eO_lo {τ σ : Nat → Nat} (h0 : τ 0 = σ 0) (h1 : τ 1 = σ 1) (k d : Nat) : eO τ k d = eO σ k d := by unfold eO; rw [rE_lo h0 h1, h0, h1]
/-! links of the two programs: the edges of a sheet -/
def gFS (c r e : Nat) : Nat := if e < (c - 1) * r then e + e / (c - 1) else e - (c - 1) * r
def gSS (c r e : Nat) : Nat := gFS c r e + (if e < (c - 1) * r then 1 else c)
def gFD (c r e : Nat) : Nat := if e < (c - 1) * r then 1 else 2
def gSD (c r e : Nat) : Nat := if e < (c - 1) * r then 3 else 0
theorem g_oe1 : ∀ c, c < 7 → ∀ r, r < 7 → ∀ e, e < (c - 1) * r + c * (r - 1) → 1 ≤ c → gEO c r (gFS c r e) (gFD c r e) = e := by decide +kernel
theorem g_oe2 : ∀ c, c < 7 → ∀ r, r < 7 → ∀ e, e < (c - 1) * r + c * (r - 1) → 1 ≤ c → gEO c r (gSS c r e) (gSD c r e) = e := by decide +kernel
theorem Ok.oe {N : Nat} {σ : Nat → Nat} (h : Ok N σ) {e : Nat} (he : e < nE σ) : eO σ (fS σ e) (fD σ e) = e ∧ eO σ (sS σ e) (sD σ e) = e := by
  have hc := h.c
  exact ⟨g_oe1 (σ 0) (by omega) (σ 1) (by omega) e he (by omega), g_oe2 (σ 0) (by omega) (σ 1) (by omega) e he (by omega)⟩
/-! links: what a change of one sheet's signs and meanings does to the edges -/
def Cln (σ : Nat → Nat) : Prop := ∀ e, e < nE σ → agn σ e = 1 → qrl σ e = 0
def Own (k : Nat) (σ τ : Nat → Nat) : Prop := ∀ j, ¬ (64 + 53 * k ≤ j ∧ j < 114 + 53 * k) → τ j = σ j
abbrev bd (τ : Nat → Nat) (e : Nat) : Prop := agn τ e = 1 ∧ 0 < qrl τ e
theorem own_rf (k : Nat) (σ : Nat → Nat) : Own k σ σ := fun _ _ => rfl
theorem own_su {k : Nat} {σ τ : Nat → Nat} (h : Own k σ τ) {i v : Nat} (hi : 64 + 53 * k ≤ i ∧ i < 114 + 53 * k) : Own k σ (su τ i v) := fun j hj => by
  rw [su_ne _ _ (fun z => hj (by rw [z]; exact hi))]
  exact h j hj
theorem own_mns {N k : Nat} {σ τ : Nat → Nat} (h : Own k σ τ) (hO : Ok N σ) {i d p : Nat} (hi : i < 36) (hik : i ≠ k) (hd : d < 4) (hp : p < 10) : mns τ i d p = mns σ i d p := by
  have hs := hO.sg hi hd hp
  have e : sgn τ i d p = sgn σ i d p := h (64 + 53 * i + (10 * d + p)) (by omega)
  unfold mns
  rw [e]
  by_cases q : sgn σ i d p = 10
  · rw [if_pos q, if_pos q]
  · rw [if_neg q, if_neg q]
    exact h (104 + 53 * i + sgn σ i d p) (by omega)
theorem qrl_cg {σ τ : Nat → Nat} {e : Nat} (h0 : τ 0 = σ 0) (h1 : τ 1 = σ 1) (hf : ∀ p, p < 10 → mns τ (fS σ e) (fD σ e) p = mns σ (fS σ e) (fD σ e) p) (hs : ∀ p, p < 10 → mns τ (sS σ e) (sD σ e) p = mns σ (sS σ e) (sD σ e) p) : qrl τ e = qrl σ e := by
  unfold qrl
  refine sm_congr fun p hp => ?_
  have hr : rsn τ e p = rsn σ e p := by
    unfold rsn
    rw [fS_lo h0 h1, sS_lo h0 h1, fD_lo h0 h1, sD_lo h0 h1, hf p hp, hs p hp]
  show (if rsn τ e p = 0 then 0 else 1) = (if rsn σ e p = 0 then 0 else 1)
  rw [hr]
theorem own_bd {N k : Nat} {σ τ : Nat → Nat} (h : Own k σ τ) (hO : Ok N σ) (hC : Cln σ) {e : Nat} (he : e < nE σ) (hb : bd τ e) : ∃ d, d < 4 ∧ eO τ k d = e := by
  have h0 : τ 0 = σ 0 := h 0 (by omega)
  have h1 : τ 1 = σ 1 := h 1 (by omega)
  have hE := hO.lE
  have hF := hO.lF he
  have hS := hO.lS
  have ho := hO.oe he
  have ha : agn σ e = 1 := by rw [← hb.1]; exact (h (4 + e) (by omega)).symm
  by_cases q1 : fS σ e = k
  · exact ⟨fD σ e, fD_lt σ e, by rw [eO_lo h0 h1, ← q1]; exact ho.1⟩
  · by_cases q2 : sS σ e = k
    · exact ⟨sD σ e, sD_lt σ e, by rw [eO_lo h0 h1, ← q2]; exact ho.2⟩
    · exfalso
      have hq := hC e he ha
      rw [← qrl_cg (τ := τ) h0 h1 (fun p hp => own_mns h hO (by omega) q1 (fD_lt σ e) hp) (fun p hp => own_mns h hO (by omega) q2 (sD_lt σ e) hp)] at hq
      have := hb.2
      omega
theorem grs_pt (τ : Nat → Nat) : ∀ n, n ≤ 60 → ∀ j, grs τ n j = if (4 ≤ j ∧ j < 4 + n) ∧ bd τ (j - 4) then 0 else τ j := by
  intro n
  induction n with
  | zero =>
    intro _ j
    rw [if_neg (fun z => by have := z.1; omega)]
    rfl
  | succ n ih =>
    intro hn j
    obtain ⟨g1, g2, g3⟩ := grs_q τ n (by omega)
    have ih := ih (by omega)
    have hX : grs τ (n + 1) = if bd τ n then su (grs τ n) (4 + n) 0 else grs τ n := by
      show grS (grs τ n) n = _
      unfold grS
      rw [g1 n, g2 n (Nat.le_refl n)]
    rw [hX]
    by_cases q : bd τ n
    · rw [if_pos q]
      by_cases z : j = 4 + n
      · rw [z, su_at, if_pos ⟨by omega, by rw [show 4 + n - 4 = n by omega]; exact q⟩]
      · rw [su_ne _ _ z, ih j]
        by_cases y : (4 ≤ j ∧ j < 4 + n) ∧ bd τ (j - 4)
        · rw [if_pos y, if_pos ⟨by have := y.1; omega, y.2⟩]
        · rw [if_neg y, if_neg (fun w => y ⟨by have := w.1; omega, w.2⟩)]
    · rw [if_neg q, ih j]
      by_cases y : (4 ≤ j ∧ j < 4 + n) ∧ bd τ (j - 4)
      · rw [if_pos y, if_pos ⟨by have := y.1; omega, y.2⟩]
      · rw [if_neg y, if_neg (fun w => ?_)]
        by_cases z : j = 4 + n
        · have w2 := w.2
          rw [z, show 4 + n - 4 = n by omega] at w2
          exact q w2
        · exact y ⟨by have := w.1; omega, w.2⟩
theorem drp_pt (τ : Nat → Nat) (k : Nat) : ∀ i, (∀ e, qrl (drp τ k i) e = qrl τ e) ∧ (∀ d, d < i → eO τ k d < 60 → bd τ (eO τ k d) → drp τ k i (4 + eO τ k d) = 0) ∧ (∀ j, drp τ k i j = τ j ∨ (drp τ k i j = 0 ∧ ∃ d, d < i ∧ eO τ k d < 60 ∧ j = 4 + eO τ k d ∧ bd τ (eO τ k d))) := by
  intro i
  induction i with
  | zero => exact ⟨fun _ => rfl, fun d h => absurd h (Nat.not_lt_zero d), fun _ => Or.inl rfl⟩
  | succ i ih =>
    obtain ⟨g1, g2, g3⟩ := ih
    have hE : eO (drp τ k i) k i = eO τ k i := eO_lo (drp_01 (by omega) i) (drp_01 (by omega) i) k i
    have hX : drp τ k (i + 1) = if agF (drp τ k i) (eO τ k i) = 1 ∧ 0 < qrl τ (eO τ k i) then su (drp τ k i) (4 + eO τ k i) 0 else drp τ k i := by
      show drS (drp τ k i) k i = _
      unfold drS
      rw [hE, g1 (eO τ k i)]
    rw [hX]
    by_cases q : agF (drp τ k i) (eO τ k i) = 1 ∧ 0 < qrl τ (eO τ k i)
    · rw [if_pos q]
      have h60 : eO τ k i < 60 := Decidable.byContradiction fun z => by
        have hq := q.1
        unfold agF at hq
        rw [if_neg z] at hq
        omega
      have hbd : bd τ (eO τ k i) := by
        refine ⟨?_, q.2⟩
        have hq := q.1
        rw [agF_at h60] at hq
        rcases g3 (4 + eO τ k i) with w | ⟨w, _⟩
        · rw [← hq]; exact w.symm
        · exfalso
          have hq : drp τ k i (4 + eO τ k i) = 1 := hq
          omega
      refine ⟨fun e => by rw [qrl_ag h60, g1], fun d hd h1 h2 => ?_, fun j => ?_⟩
      · by_cases z : eO τ k d = eO τ k i
        · rw [z, su_at]
        · rw [su_ne _ _ (by omega)]
          refine g2 d ?_ h1 h2
          rcases Nat.lt_succ_iff_lt_or_eq.mp hd with y | y
          · exact y
          · subst y; exact absurd rfl z
      · by_cases z : j = 4 + eO τ k i
        · exact Or.inr ⟨by rw [z, su_at], i, by omega, h60, z, hbd⟩
        · rw [su_ne _ _ z]
          rcases g3 j with w | ⟨w, d, a1, a2, a3, a4⟩
          · exact Or.inl w
          · exact Or.inr ⟨w, d, by omega, a2, a3, a4⟩
    · rw [if_neg q]
      refine ⟨g1, fun d hd h1 h2 => ?_, fun j => ?_⟩
      · rcases Nat.lt_succ_iff_lt_or_eq.mp hd with y | y
        · exact g2 d y h1 h2
        · subst y
          rcases g3 (4 + eO τ k d) with w | ⟨w, _⟩
          · exfalso
            apply q
            refine ⟨?_, h2.2⟩
            rw [agF_at h1]
            show drp τ k d (4 + eO τ k d) = 1
            rw [w]
            exact h2.1
          · exact w
      · rcases g3 j with w | ⟨w, d, a1, a2, a3, a4⟩
        · exact Or.inl w
        · exact Or.inr ⟨w, d, by omega, a2, a3, a4⟩
section BRK
variable {N k : Nat} {τ : Nat → Nat}
theorem drp_grs (hO : Ok N τ) (hk : k < nS τ) (hb : ∀ e, e < nE τ → bd τ e → ∃ d, d < 4 ∧ eO τ k d = e) : drp τ k 4 = grs τ (nE τ) := by
  funext j
  have hE := hO.lE
  obtain ⟨-, g2, g3⟩ := drp_pt τ k 4
  rw [grs_pt τ (nE τ) (by omega) j]
  by_cases q : (4 ≤ j ∧ j < 4 + nE τ) ∧ bd τ (j - 4)
  · rw [if_pos q]
    have q1 := q.1
    obtain ⟨d, hd, he⟩ := hb (j - 4) (by omega) q.2
    have h := g2 d hd (by rw [he]; omega) (by rw [he]; exact q.2)
    rw [he, show 4 + (j - 4) = j by omega] at h
    exact h
  · rw [if_neg q]
    rcases g3 j with w | ⟨w, d, a1, a2, a3, a4⟩
    · exact w
    · exfalso
      have hn := (hO.lO hk a1).resolve_left (by omega)
      exact q ⟨by omega, by rw [a3, show 4 + eO τ k d - 4 = eO τ k d by omega]; exact a4⟩
theorem brk_iff (hO : Ok N τ) (hk : k < nS τ) (hb : ∀ e, e < nE τ → bd τ e → ∃ d, d < 4 ∧ eO τ k d = e) : brkN τ k = 0 ↔ brA τ (nE τ) = 0 := by
  have hE := hO.lE
  unfold brkN brA
  rw [sm_zero, sm_zero]
  constructor
  · intro h e he
    show (if agn τ e = 1 ∧ 0 < qrl τ e then 1 else 0) = 0
    by_cases q : agn τ e = 1 ∧ 0 < qrl τ e
    · obtain ⟨d, hd, hx⟩ := hb e he q
      have hz : (if agF τ (eO τ k d) = 1 ∧ 0 < qrl τ (eO τ k d) then 1 else 0) = 0 := h d hd
      rw [hx, agF_at (show e < 60 by omega), if_pos q] at hz
      omega
    · rw [if_neg q]
  · intro h d hd
    show (if agF τ (eO τ k d) = 1 ∧ 0 < qrl τ (eO τ k d) then 1 else 0) = 0
    by_cases q : agF τ (eO τ k d) = 1 ∧ 0 < qrl τ (eO τ k d)
    · have h60 : eO τ k d ≠ 60 := fun z => by
        rw [z, agF_60] at q
        exact absurd q.1 (by decide)
      have hn := (hO.lO hk hd).resolve_left h60
      have hz : (if agn τ (eO τ k d) = 1 ∧ 0 < qrl τ (eO τ k d) then 1 else 0) = 0 := h _ hn
      rw [agF_at (show eO τ k d < 60 by omega)] at q
      rw [if_pos q] at hz
      omega
    · rw [if_neg q]
end BRK
theorem mns_off {N i v : Nat} {σ : Nat → Nat} (hO : Ok N σ) (hi : ∀ k y, y < 50 → 64 + 53 * k + y ≠ i) {k d p : Nat} (hk : k < 36) (hd : d < 4) (hp : p < 10) : mns (su σ i v) k d p = mns σ k d p := by
  have hs := hO.sg hk hd hp
  have e : sgn (su σ i v) k d p = sgn σ k d p := su_ne σ v (hi k (10 * d + p) (by omega))
  unfold mns
  rw [e]
  by_cases q : sgn σ k d p = 10
  · rw [if_pos q, if_pos q]
  · rw [if_neg q, if_neg q]
    exact su_ne σ v (fun z => hi k (40 + sgn σ k d p) (by omega) (by omega))
theorem qrl_off {N i v e : Nat} {σ : Nat → Nat} (hO : Ok N σ) (he : e < nE σ) (h2 : 2 ≤ i) (hi : ∀ k y, y < 50 → 64 + 53 * k + y ≠ i) : qrl (su σ i v) e = qrl σ e := by
  have hF := hO.lF he
  have hS := hO.lS
  exact qrl_cg (su_ne σ v (by omega)) (su_ne σ v (by omega)) (fun p hp => mns_off hO hi (by omega) (fD_lt σ e) hp) (fun p hp => mns_off hO hi (by omega) (sD_lt σ e) hp)
theorem cln_su {N i v : Nat} {σ : Nat → Nat} (hO : Ok N σ) (hC : Cln σ) (h2 : 2 ≤ i) (hi : ∀ k y, y < 50 → 64 + 53 * k + y ≠ i) (h4 : ∀ e, e < 60 → 4 + e ≠ i) : Cln (su σ i v) := by
  intro e he ha
  rw [nE_su h2] at he
  have hE := hO.lE
  rw [qrl_off hO he h2 hi]
  exact hC e he (by rw [← ha]; exact (su_ne σ v (h4 e (by omega))).symm)
theorem cln_ag {N e v : Nat} {σ : Nat → Nat} (hO : Ok N σ) (hC : Cln σ) (he : e < nE σ) (hq : v = 1 → qrl σ e = 0) : Cln (su σ (4 + e) v) := by
  intro i hi ha
  have hE := hO.lE
  rw [nE_su (show 2 ≤ 4 + e by omega)] at hi
  rw [qrl_ag (show e < 60 by omega)]
  by_cases z : i = e
  · subst z
    exact hq (by rw [← ha]; exact (su_at σ (4 + i) v).symm)
  · exact hC i hi (by rw [← ha]; exact (su_ne σ v (show 4 + i ≠ 4 + e by omega)).symm)
theorem cln_bgn {N c r g t : Nat} (hO : Ok N (bgn c r g t)) : Cln (bgn c r g t) := by
  intro e he ha
  have hE := hO.lE
  exfalso
  unfold agn bgn at ha
  rw [if_neg (by omega), if_neg (by omega), if_neg (by omega), if_neg (by omega), if_pos (by omega)] at ha
  omega
theorem cln_grs {N : Nat} {τ : Nat → Nat} (hO : Ok N τ) (k v : Nat) : Cln (su (grs τ (nE τ)) (114 + 53 * k) v) := by
  intro e he ha
  have hE := hO.lE
  obtain ⟨g1, -, g3⟩ := grs_q τ (nE τ) (by omega)
  have h0 := g3 0 (by omega)
  have h1 := g3 1 (by omega)
  rw [nE_su (show 2 ≤ 114 + 53 * k by omega)] at he
  have hg := hO.gr (nE τ) (by omega)
  rw [qrl_off hg he (by omega) (fun i y hy => by omega), g1 e]
  rw [nE_lo h0 h1] at he
  unfold agn at ha
  rw [su_ne _ _ (show 4 + e ≠ 114 + 53 * k by omega), grs_pt τ (nE τ) (by omega) (4 + e)] at ha
  by_cases q : (4 ≤ 4 + e ∧ 4 + e < 4 + nE τ) ∧ bd τ (4 + e - 4)
  · rw [if_pos q] at ha
    omega
  · rw [if_neg q] at ha
    exact Decidable.byContradiction fun z => q ⟨by omega, by rw [show 4 + e - 4 = e by omega]; exact ⟨ha, by omega⟩⟩
theorem cln_grs0 {N : Nat} {σ : Nat → Nat} (hO : Ok N σ) (hC : Cln σ) : grs σ (nE σ) = σ ∧ brA σ (nE σ) = 0 := by
  have hE := hO.lE
  constructor
  · funext j
    rw [grs_pt σ (nE σ) (by omega) j, if_neg (fun q => ?_)]
    have q1 := q.1
    have q2 := q.2
    have := hC (j - 4) (by omega) q2.1
    have := q2.2
    omega
  · unfold brA
    rw [sm_zero]
    intro e he
    show (if agn σ e = 1 ∧ 0 < qrl σ e then 1 else 0) = 0
    rw [if_neg (fun z => by have := hC e he z.1; have := z.2; omega)]
theorem Ok.up {N : Nat} {σ : Nat → Nat} (h : Ok N σ) (hN : N + 1 < 100000) : Ok (N + 1) σ := by
  obtain ⟨h0, h1, h2, h3, h4, h5, h6, h7, h8, h9, h10⟩ := h
  exact ⟨h0, h1, h2, h3, h4, h5, h6, fun k hk => by have := h7 k hk; omega, fun k hk => by have := h8 k hk; omega, h9, hN⟩
theorem lnk {N k : Nat} {σ τ : Nat → Nat} (hO : Ok N σ) (hT : Ok N τ) (hN : N + 1 < 100000) (hC : Cln σ) (hk : k < nS σ) (h : Own k σ τ) :
    (rfsd τ k ↔ (τ 2 ≠ 0 ∧ 0 < brA τ (nE τ))) ∧ endS τ k = su (grs τ (nE τ)) (114 + 53 * k) (rvn (grs τ (nE τ)) k + 1) ∧ Cln (endS τ k) ∧ Ok (N + 1) (endS τ k) := by
  have h0 : τ 0 = σ 0 := h 0 (by omega)
  have h1 : τ 1 = σ 1 := h 1 (by omega)
  have hkt : k < nS τ := by rw [nS_lo h0 h1]; exact hk
  have hE := hT.lE
  have hS := hT.lS
  have hb : ∀ e, e < nE τ → bd τ e → ∃ d, d < 4 ∧ eO τ k d = e := fun e he hq => own_bd h hO hC (by rw [nE_lo h0 h1] at he; exact he) hq
  have hD := drp_grs hT hkt hb
  have hB := brk_iff hT hkt hb
  have e : endS τ k = su (grs τ (nE τ)) (114 + 53 * k) (rvn (grs τ (nE τ)) k + 1) := by unfold endS; rw [hD]
  have h2 : τ 2 ≤ 1 := hT.2.2.1
  have hg := hT.gr (nE τ) (by omega)
  refine ⟨?_, e, by rw [e]; exact cln_grs hT k _, ?_⟩
  · unfold rfsd
    constructor
    · intro ⟨a, b⟩
      exact ⟨by omega, by omega⟩
    · intro ⟨a, b⟩
      exact ⟨by omega, by omega⟩
  · rw [e]
    exact (hg.up hN).su_rv (by have := hg.rv (show k < 36 by omega); omega)
/-! settling: the edge is clean then, no other edge is touched -/
theorem fst1_nl {f : Nat → Bool} : ∀ {n : Nat}, ¬ fst1 f n < n → ∀ i, i < n → f i = false := by
  intro n
  induction n with
  | zero => exact fun _ i hi => absurd hi (Nat.not_lt_zero i)
  | succ n ih =>
    intro h i hi
    rw [fst1] at h
    by_cases q : fst1 f n < n
    · rw [if_pos q] at h
      omega
    · rw [if_neg q] at h
      by_cases y : f n = true
      · rw [if_pos y] at h
        omega
      · rcases Nat.lt_succ_iff_lt_or_eq.mp hi with z | z
        · exact ih q i z
        · subst z
          exact eq_false_of_ne_true y
section STL
variable {N k1 d1 k2 d2 : Nat} {σ : Nat → Nat}
theorem stl_own : ∀ p j, (∀ q, q < p → j ≠ 64 + 53 * k2 + (10 * d2 + q)) → stl σ k1 d1 k2 d2 p j = σ j := by
  intro p
  induction p with
  | zero => exact fun _ _ => rfl
  | succ p ih =>
    intro j h
    have hi := ih j (fun q hq => h q (by omega))
    rw [stl]
    unfold stS
    split
    · exact hi
    · rw [su_ne _ _ (h p (by omega))]; exact hi
theorem stl_mns (hO : Ok N σ) {k d q p : Nat} (hk : k < 36) (hd : d < 4) (hd2 : d2 < 4) (hne : ¬ (k = k2 ∧ d = d2)) (hp : p ≤ 10) (hq : q < 10) : mns (stl σ k1 d1 k2 d2 p) k d q = mns σ k d q := by
  have hs := hO.sg hk hd hq
  have e : sgn (stl σ k1 d1 k2 d2 p) k d q = sgn σ k d q := stl_own p (64 + 53 * k + (10 * d + q)) (fun r hr => by
    by_cases z : k = k2
    · have : d ≠ d2 := fun y => hne ⟨z, y⟩
      omega
    · omega)
  unfold mns
  rw [e]
  by_cases z : sgn σ k d q = 10
  · rw [if_pos z, if_pos z]
  · rw [if_neg z, if_neg z]
    exact stl_own p (104 + 53 * k + sgn σ k d q) (fun r hr => by
      have hy : 10 * d2 + r < 40 := by omega
      generalize 10 * d2 + r = y at hy ⊢
      omega)
theorem mns_su0 {τ : Nat → Nat} {k d p v q : Nat} (hd : d < 4) (hp : p < 10) (hq : q ≠ p) : mns (su τ (64 + 53 * k + (10 * d + p)) v) k d q = mns τ k d q := by
  have e : sgn (su τ (64 + 53 * k + (10 * d + p)) v) k d q = sgn τ k d q := su_ne τ v (by omega)
  unfold mns
  rw [e]
  by_cases z : sgn τ k d q = 10
  · rw [if_pos z, if_pos z]
  · rw [if_neg z, if_neg z]
    exact su_ne τ v (by omega)
theorem stl_agr (hO : Ok N σ) (hk1 : k1 < 36) (hd1 : d1 < 4) (hd2 : d2 < 4) (hne : ¬ (k1 = k2 ∧ d1 = d2)) (hbad : ¬ sbd σ k1 d1 k2 d2 < 10) : ∀ p, p ≤ 10 → ∀ q, q < p → mns (stl σ k1 d1 k2 d2 p) k2 d2 q = mns σ k1 d1 q := by
  intro p
  induction p with
  | zero => exact fun _ q hq => absurd hq (Nat.not_lt_zero q)
  | succ p ih =>
    intro hp q hq
    have ih := ih (by omega)
    have m1 : mns (stl σ k1 d1 k2 d2 p) k1 d1 p = mns σ k1 d1 p := stl_mns hO hk1 hd1 hd2 hne (by omega) (by omega)
    have hnb : sBad (stl σ k1 d1 k2 d2 p) k1 d1 k2 d2 p = false := fst1_nl hbad p (by omega)
    rw [show stl σ k1 d1 k2 d2 (p + 1) = stS (stl σ k1 d1 k2 d2 p) k1 d1 k2 d2 p from rfl]
    generalize stl σ k1 d1 k2 d2 p = τ at ih m1 hnb
    unfold stS
    by_cases e : mns τ k1 d1 p = mns τ k2 d2 p
    · rw [if_pos e]
      rcases Nat.lt_succ_iff_lt_or_eq.mp hq with z | z
      · exact ih q z
      · rw [z, ← e, m1]
    · rw [if_neg e]
      by_cases z : q = p
      · subst z
        by_cases t : mns τ k1 d1 q = 10
        · rw [if_pos t, ← m1, t]
          exact if_pos (su_at τ _ 10)
        · rw [if_neg t, ← m1]
          have hl : lws τ k2 (mns τ k1 d1 q) ≠ 10 := fun w => of_decide_eq_false hnb ⟨e, t, w⟩
          have hle := lws_le τ k2 (mns τ k1 d1 q)
          have hsat := fst1_sat (f := fun g => decide (mng τ k2 g = mns τ k1 d1 q)) (n := 10) (by show lws τ k2 (mns τ k1 d1 q) < 10; omega)
          have hsat : mng τ k2 (lws τ k2 (mns τ k1 d1 q)) = mns τ k1 d1 q := of_decide_eq_true hsat
          have e1 : sgn (su τ (64 + 53 * k2 + (10 * d2 + q)) (lws τ k2 (mns τ k1 d1 q))) k2 d2 q = lws τ k2 (mns τ k1 d1 q) := su_at τ _ _
          have e2 : mng (su τ (64 + 53 * k2 + (10 * d2 + q)) (lws τ k2 (mns τ k1 d1 q))) k2 (lws τ k2 (mns τ k1 d1 q)) = mng τ k2 (lws τ k2 (mns τ k1 d1 q)) := su_ne τ _ (by omega)
          show (if sgn (su τ (64 + 53 * k2 + (10 * d2 + q)) (lws τ k2 (mns τ k1 d1 q))) k2 d2 q = 10 then 10 else mng (su τ (64 + 53 * k2 + (10 * d2 + q)) (lws τ k2 (mns τ k1 d1 q))) k2 (sgn (su τ (64 + 53 * k2 + (10 * d2 + q)) (lws τ k2 (mns τ k1 d1 q))) k2 d2 q)) = mns τ k1 d1 q
          rw [e1, if_neg hl, e2, hsat]
      · rw [mns_su0 hd2 (by omega) z]
        exact ih q (by omega)
theorem stl_ok (hO : Ok N σ) (hd2 : d2 < 4) : ∀ p, p ≤ 10 → Ok N (stl σ k1 d1 k2 d2 p) := by
  intro p
  induction p with
  | zero => exact fun _ => hO
  | succ p ih =>
    intro hp
    have ih := ih (by omega)
    rw [stl]
    unfold stS
    split
    · exact ih
    · refine ih.su_sg (by omega) ?_
      split
      · omega
      · exact lws_le _ _ _
theorem stl_cln {e : Nat} (hO : Ok N σ) (hC : Cln σ) (he : e < nE σ) (hs : (k1 = fS σ e ∧ d1 = fD σ e ∧ k2 = sS σ e ∧ d2 = sD σ e) ∨ (k1 = sS σ e ∧ d1 = sD σ e ∧ k2 = fS σ e ∧ d2 = fD σ e)) (hbad : ¬ sbd σ k1 d1 k2 d2 < 10) : Cln (stl σ k1 d1 k2 d2 10) := by
  have h0 : stl σ k1 d1 k2 d2 10 0 = σ 0 := stl_lo (by omega) 10
  have h1 : stl σ k1 d1 k2 d2 10 1 = σ 1 := stl_lo (by omega) 10
  have hE := hO.lE
  have hS := hO.lS
  have hF := hO.lF he
  have f4 := fD_lt σ e
  have s4 := sD_lt σ e
  have hfs : fD σ e ≠ sD σ e := by unfold fD sD; split <;> omega
  have hk1 : k1 < 36 := by omega
  have hd1 : d1 < 4 := by omega
  have hd2 : d2 < 4 := by omega
  have hne : ¬ (k1 = k2 ∧ d1 = d2) := fun z => by omega
  have ho := hO.oe he
  have h2 : eO σ k2 d2 = e := by
    rcases hs with ⟨_, _, c, d⟩ | ⟨_, _, c, d⟩
    · rw [c, d]; exact ho.2
    · rw [c, d]; exact ho.1
  intro i hi ha
  rw [nE_lo h0 h1] at hi
  by_cases z : i = e
  · subst z
    have key : ∀ p, p < 10 → mns (stl σ k1 d1 k2 d2 10) (fS σ i) (fD σ i) p = mns (stl σ k1 d1 k2 d2 10) (sS σ i) (sD σ i) p := by
      intro p hp
      have a1 := stl_mns (k1 := k1) (d1 := d1) (k2 := k2) (d2 := d2) (p := 10) hO hk1 hd1 hd2 hne (by omega) hp
      have a2 := stl_agr hO hk1 hd1 hd2 hne hbad 10 (by omega) p hp
      rcases hs with ⟨a, b, c, d⟩ | ⟨a, b, c, d⟩
      · rw [← a, ← b, ← c, ← d, a1, a2]
      · rw [← a, ← b, ← c, ← d, a1, a2]
    unfold qrl
    rw [sm_zero]
    intro p hp
    show (if rsn (stl σ k1 d1 k2 d2 10) i p = 0 then 0 else 1) = 0
    rw [if_pos]
    unfold rsn
    rw [fS_lo h0 h1, sS_lo h0 h1, fD_lo h0 h1, sD_lo h0 h1, if_pos (key p hp)]
  · have hFi := hO.lF hi
    have hoi := hO.oe hi
    rw [qrl_cg h0 h1 (fun p hp => stl_mns hO (by omega) (fD_lt σ i) hd2 (fun y => z (by rw [← hoi.1, y.1, y.2, h2])) (by omega) hp) (fun p hp => stl_mns hO (by omega) (sD_lt σ i) hd2 (fun y => z (by rw [← hoi.2, y.1, y.2, h2])) (by omega) hp)]
    have h4 : stl σ k1 d1 k2 d2 10 (4 + i) = σ (4 + i) := stl_lo (by omega) 10
    have ha : stl σ k1 d1 k2 d2 10 (4 + i) = 1 := ha
    rw [h4] at ha
    exact hC i hi ha
theorem stE_ok {e : Nat} (hO : Ok N σ) (hN : N + 1 < 100000) (hC : Cln σ) (he : e < nE σ) (hs : (k1 = fS σ e ∧ d1 = fD σ e ∧ k2 = sS σ e ∧ d2 = sD σ e) ∨ (k1 = sS σ e ∧ d1 = sD σ e ∧ k2 = fS σ e ∧ d2 = fD σ e)) (hbad : ¬ sbd σ k1 d1 k2 d2 < 10) : Ok (N + 1) (stE σ k1 d1 k2 d2) ∧ Cln (stE σ k1 d1 k2 d2) := by
  have hS := hO.lS
  have hF := hO.lF he
  have f4 := fD_lt σ e
  have s4 := sD_lt σ e
  have hd2 : d2 < 4 := by omega
  have hk2 : k2 < 36 := by omega
  have o1 := stl_ok (k1 := k1) (d1 := d1) (k2 := k2) hO hd2 10 (by omega)
  have c1 := stl_cln hO hC he hs hbad
  unfold stE
  split
  · exact ⟨(o1.up hN).su_rv (by have := o1.rv hk2; omega), cln_su o1 c1 (by omega) (fun k y hy => by omega) (fun e he => by omega)⟩
  · exact ⟨o1.up hN, c1⟩
end STL
/-! taking the signs of a text -/
/-- the tables' words, as the start has them -/
theorem law_arr {s : State} {cA : ClassId} {kA : Class} {comp : ClassId} {ty : FieldType} (h2 : s.vm.classes[cA]? = some kA) (h3 : kA.kind = .array comp ty) : ArrOfT s cA ty := fun n z => ⟨fun k h => (by cases h), kA, h2, comp, h3⟩
theorem bgn_ok1 : Ok 1 (bgn 3 2 1 20) := by
  refine ⟨by decide +kernel, by decide +kernel, by decide +kernel, by decide +kernel, fun e he => ?_, fun k j hk hj => ?_, fun k j hk hj => ?_, fun k hk => ?_, fun k hk => ?_, fun k hk => ?_, by omega⟩
  · unfold bgn
    rw [if_neg (by omega), if_neg (by omega), if_neg (by omega), if_neg (by omega), if_pos (by omega)]
    omega
  · unfold bgn
    rw [if_neg (by omega), if_neg (by omega), if_neg (by omega), if_neg (by omega), if_neg (by omega), if_pos (by omega)]
    omega
  · unfold bgn
    rw [if_neg (by omega), if_neg (by omega), if_neg (by omega), if_neg (by omega), if_neg (by omega), if_neg (by omega), if_pos (by omega)]
    omega
  · unfold bgn
    rw [if_neg (by omega), if_neg (by omega), if_neg (by omega), if_neg (by omega), if_neg (by omega), if_neg (by omega), if_neg (by omega), if_pos (by omega)]
    omega
  · unfold bgn
    rw [if_neg (by omega), if_neg (by omega), if_neg (by omega), if_neg (by omega), if_neg (by omega), if_neg (by omega), if_neg (by omega), if_pos (by omega)]
    omega
  · unfold bgn
    rw [if_neg (by omega), if_neg (by omega), if_neg (by omega), if_neg (by omega), if_neg (by omega), if_neg (by omega), if_neg (by omega), if_neg (by omega)]
    omega
