/-! the law's edges: first sheet, 10 more between neighbors of a column -/
def its (σ : Nat → Nat) (e : Nat) : Nat := if e < rE σ then fS σ e else 10 + fS σ e
def eL (σ : Nat → Nat) (e : Nat) : Int32 := if e < nE σ then nI (its σ e) else (-1)
def gIt (c r e : Nat) : Nat := if e < (c - 1) * r then gFS c r e else 10 + gFS c r e
def gIs (c r k : Nat) : Bool := if k = k % (c * r) then decide (k % (c * r) % c + 1 < c) else decide (k % (c * r) / c + 1 < r)
def gCn (c r : Nat) : Nat → Nat
  | 0 => 0
  | k + 1 => gCn c r k + (if gIs c r k = true then 1 else 0)
def gIsP (c r k : Nat) : Bool := !gIs c r k || decide (gCn c r k < (c - 1) * r + c * (r - 1) ∧ gIt c r (gCn c r k) = (if k = k % (c * r) then k % (c * r) else 10 + k % (c * r)))
theorem g_is0 : ∀ c, c < 4 → ∀ r, r < 3 → ∀ k, k < 2 * (c * r) → gIsP c r k = true := by decide +kernel
theorem g_is (c : Nat) (hc : c < 4) (r : Nat) (hr : r < 3) (k : Nat) (hk : k < 2 * (c * r)) (h : gIs c r k = true) : gCn c r k < (c - 1) * r + c * (r - 1) ∧ gIt c r (gCn c r k) = (if k = k % (c * r) then k % (c * r) else 10 + k % (c * r)) := by
  have h0 := g_is0 c hc r hr k hk
  unfold gIsP at h0
  rw [h] at h0
  exact of_decide_eq_true h0
theorem g_cn : ∀ c, c < 4 → ∀ r, r < 3 → 1 ≤ c → 1 ≤ r → gCn c r (2 * (c * r)) = (c - 1) * r + c * (r - 1) := by decide +kernel
def gAt (c r k d e : Nat) : Bool := if d = 1 then decide (gIt c r e = k) else if d = 2 then decide (gIt c r e = 10 + k) else if d = 3 then decide (gIt c r e < 10 ∧ gIt c r e + 1 = k) else decide (9 < gIt c r e ∧ gSS c r e = k)
def gFA (c r k d : Nat) : Nat → Nat
  | 0 => 60
  | e + 1 => if gAt c r k d e = true then e else gFA c r k d e
theorem g_fa : ∀ c, c < 4 → ∀ r, r < 3 → ∀ k, k < c * r → ∀ d, d < 4 → gFA c r k d ((c - 1) * r + c * (r - 1)) = gEO c r k d := by decide +kernel
theorem g_fl (c r k d : Nat) : ∀ e, gFA c r k d e = 60 ∨ gFA c r k d e < e := by
  intro e
  induction e with
  | zero => exact Or.inl rfl
  | succ e ih =>
    rw [gFA]
    split
    · exact Or.inr (by omega)
    · rcases ih with h | h
      · exact Or.inl h
      · exact Or.inr (by omega)
section LE
variable {N : Nat} {σ : Nat → Nat}
theorem its_lo {e : Nat} (h : e < rE σ) : its σ e = fS σ e := if_pos h
theorem its_hi {e : Nat} (h : ¬ e < rE σ) : its σ e = 10 + fS σ e := if_neg h
theorem its_f (hO : Ok N σ) (hM : Sml σ) {e : Nat} (he : e < nE σ) : fS σ e < 6 ∧ sS σ e < 6 := by
  have := hO.lF he
  have := hM.s
  omega
theorem its_10 (hO : Ok N σ) (hM : Sml σ) {e : Nat} (he : e < nE σ) : (its σ e < 10 ↔ e < rE σ) ∧ its σ e % 10 = fS σ e ∧ its σ e < 16 := by
  have := its_f hO hM he
  by_cases q : e < rE σ
  · rw [its_lo q]
    exact ⟨⟨fun _ => q, fun _ => by omega⟩, by omega, by omega⟩
  · rw [its_hi q]
    exact ⟨⟨fun _ => by omega, fun h => absurd h q⟩, by omega, by omega⟩
theorem eL_in {e : Nat} (h : e < nE σ) : eL σ e = nI (its σ e) := if_pos h
theorem eL_out {e : Nat} (h : ¬ e < nE σ) : eL σ e = (-1) := if_neg h
theorem eL_lt (hO : Ok N σ) (hM : Sml σ) {e : Nat} : eL σ e < 0 ↔ nE σ ≤ e := by
  by_cases q : e < nE σ
  · rw [eL_in q]
    have := its_10 hO hM q
    exact ⟨fun h => absurd h (nI_pos (by omega)), fun h => by omega⟩
  · rw [eL_out q]
    exact ⟨fun _ => by omega, fun _ => by decide⟩
theorem its_end (hO : Ok N σ) (hM : Sml σ) : gCn (σ 0) (σ 1) (2 * nS σ) = nE σ := by
  have hc := hO.c
  exact g_cn (σ 0) (by have := hM.1; omega) (σ 1) (by have := hM.2; omega) (by omega) (by omega)
theorem its_is (hO : Ok N σ) (hM : Sml σ) {k : Nat} (hk : k < 2 * nS σ) (h : gIs (σ 0) (σ 1) k = true) : gCn (σ 0) (σ 1) k < nE σ ∧ its σ (gCn (σ 0) (σ 1) k) = (if k = k % nS σ then k % nS σ else 10 + k % nS σ) := by
  have hc := hO.c
  exact g_is (σ 0) (by have := hM.1; omega) (σ 1) (by have := hM.2; omega) k hk h
theorem its_at (hO : Ok N σ) (hM : Sml σ) {k d : Nat} (hk : k < nS σ) (hd : d < 4) : gFA (σ 0) (σ 1) k d (nE σ) = eO σ k d := by
  have hc := hO.c
  exact g_fa (σ 0) (by have := hM.1; omega) (σ 1) (by have := hM.2; omega) k hk d hd
end LE
/-! agreed edges that quarrel, as bits -/
def tb (σ : Nat → Nat) (e : Nat) : Nat := if e < nE σ ∧ bd σ e then 1 else 0
def trn (σ : Nat → Nat) : Nat := sm (fun e => tb σ e * 2 ^ e) 7
def trp (σ : Nat → Nat) (n : Nat) : Nat := sm (fun e => if bd σ e then 2 ^ e else 0) n
theorem trp_lt (σ : Nat → Nat) : ∀ n, trp σ n < 2 ^ n := by
  intro n
  induction n with
  | zero => exact Nat.one_pos
  | succ n ih =>
    have h : trp σ (n + 1) = trp σ n + (if bd σ n then 2 ^ n else 0) := rfl
    rw [h, Nat.pow_succ]
    split <;> omega
theorem sm_cut {f : Nat → Nat} {n : Nat} : ∀ m, n ≤ m → sm (fun e => if e < n then f e else 0) m = sm f n := by
  intro m
  induction m with
  | zero => intro h; obtain rfl : n = 0 := by omega
            rfl
  | succ m ih =>
    intro h
    by_cases q : n = m + 1
    · subst q
      exact sm_congr fun i hi => by show (if i < m + 1 then f i else 0) = f i; rw [if_pos hi]
    · rw [sm, ih (by omega)]
      show sm f n + (if m < n then f m else 0) = sm f n
      rw [if_neg (by omega)]
      rfl
theorem trp_trn {σ : Nat → Nat} (h : nE σ ≤ 7) : trp σ (nE σ) = trn σ := by
  unfold trp trn
  rw [← sm_cut 7 h]
  refine sm_congr fun e he => ?_
  show (if e < nE σ then (if bd σ e then 2 ^ e else 0) else 0) = tb σ e * 2 ^ e
  unfold tb
  by_cases q1 : e < nE σ
  · by_cases q2 : bd σ e
    · rw [if_pos q1, if_pos q2, if_pos ⟨q1, q2⟩, Nat.one_mul]
    · rw [if_pos q1, if_neg q2, if_neg (fun z => q2 z.2), Nat.zero_mul]
  · rw [if_neg q1, if_neg (fun z => q1 z.1), Nat.zero_mul]
theorem tb_le (σ : Nat → Nat) (e : Nat) : tb σ e ≤ agn σ e ∧ tb σ e < 2 := by
  unfold tb
  split
  · rename_i h
    have := h.2.1
    omega
  · omega
theorem sm_add {f g h : Nat → Nat} : ∀ n, (∀ i, i < n → f i + g i = h i) → sm f n + sm g n = sm h n := by
  intro n
  induction n with
  | zero => exact fun _ => rfl
  | succ n ih =>
    intro q
    have h1 := ih (fun i hi => q i (by omega))
    have h2 := q n (by omega)
    rw [sm, sm, sm]
    omega
theorem trn_lt (σ : Nat → Nat) : trn σ < 128 := dg_lt (B := 2) (f := fun e => tb σ e) 7 (fun i hi => (tb_le σ i).2)
theorem trn_0 {σ : Nat → Nat} (hE : nE σ ≤ 7) : trn σ = 0 ↔ brA σ (nE σ) = 0 := by
  rw [← trp_trn hE]
  unfold trp brA
  rw [sm_zero, sm_zero]
  constructor
  · intro h e he
    have hz : (if bd σ e then 2 ^ e else 0) = 0 := h e he
    show (if agn σ e = 1 ∧ 0 < qrl σ e then 1 else 0) = 0
    have := b_e7 e (by omega)
    by_cases q : bd σ e
    · rw [if_pos q] at hz; omega
    · rw [if_neg q]
  · intro h e he
    have hz : (if agn σ e = 1 ∧ 0 < qrl σ e then 1 else 0) = 0 := h e he
    show (if bd σ e then 2 ^ e else 0) = 0
    by_cases q : bd σ e
    · rw [if_pos q] at hz; omega
    · rw [if_neg q]
theorem agM_gr {N : Nat} {σ : Nat → Nat} (hO : Ok N σ) (hE : nE σ ≤ 7) : nI (agM σ) &&& (nI (trn σ) ^^^ (-1)) = nI (agM (grs σ (nE σ))) := by
  have h1 := b_no (agM σ) (agM_lt hO) (trn σ) (dg_lt (B := 2) (f := fun e => tb σ e) 7 (fun i hi => (tb_le σ i).2)) (fun e he => by
    rw [agM_bt hO he, show trn σ / 2 ^ e % 2 = tb σ e from dg_at (B := 2) (f := fun e => tb σ e) (by omega) 7 e (fun i hi => (tb_le σ i).2) he]
    exact (tb_le σ e).1)
  rw [h1.1]
  congr 1
  have h2 : agM (grs σ (nE σ)) + trn σ = agM σ := sm_add 7 fun e he => by
    show agn (grs σ (nE σ)) e * 2 ^ e + tb σ e * 2 ^ e = agn σ e * 2 ^ e
    rw [← Nat.add_mul]
    congr 1
    have hp := grs_pt σ (nE σ) (by omega) (4 + e)
    have hp : agn (grs σ (nE σ)) e = if (4 ≤ 4 + e ∧ 4 + e < 4 + nE σ) ∧ bd σ (4 + e - 4) then 0 else agn σ e := hp
    rw [hp, show 4 + e - 4 = e by omega]
    unfold tb
    by_cases q : e < nE σ ∧ bd σ e
    · rw [if_pos q, if_pos ⟨by have := q.1; omega, q.2⟩]
      have := q.2.1
      omega
    · rw [if_neg q, if_neg (fun z => q ⟨by have := z.1; omega, z.2⟩)]
      omega
  omega
/-- the state behind a kept change -/
def kpS (τ : Nat → Nat) (k : Nat) : Nat → Nat := su (grs τ (nE τ)) (114 + 53 * k) (rvn (grs τ (nE τ)) k + 1)
theorem grs_hi (τ : Nat → Nat) {n : Nat} (hn : n ≤ 60) {j : Nat} (h : ¬ (4 ≤ j ∧ j < 64)) : grs τ n j = τ j := by
  rw [grs_pt τ n hn j, if_neg (fun z => h ⟨z.1.1, by have := z.1.2; omega⟩)]
section KP
variable {N : Nat} {τ : Nat → Nat}
theorem kp_r (hO : Ok N τ) {k : Nat} (hk : k < 6) : ∀ j, j < 18 → upd (rF τ) k (nI (rvn τ k + 1)) j = rF (kpS τ k) j := fun j hj => by
  have hE := hO.lE
  have e1 : rvn (grs τ (nE τ)) = rvn τ := funext fun x => grs_hi τ hE.2 (by omega)
  have e2 : rF (grs τ (nE τ)) = rF τ := by
    funext x
    unfold rF
    rw [e1, show pbn (grs τ (nE τ)) = pbn τ from funext fun x => grs_hi τ hE.2 (by omega), show scn (grs τ (nE τ)) = scn τ from funext fun x => grs_hi τ hE.2 (by omega)]
  unfold kpS
  rw [← rF_rv (grs τ (nE τ)) hk _ j hj, e1, e2]
theorem kp_g (hO : Ok N τ) (hE : nE τ ≤ 7) {k : Nat} : ∀ j, j < 5 → upd (gF τ) 4 (nI (agM (grs τ (nE τ)))) j = gF (kpS τ k) j := fun j hj => by
  unfold kpS
  rw [gF_ne _ _ (by omega) j hj]
  unfold upd gF
  by_cases q : j = 4
  · rw [if_pos q, if_pos q]
  · rw [if_neg q, if_neg q, if_neg q, grs_hi τ (by omega) (by omega)]
theorem kp_a (hO : Ok N τ) {k : Nat} : aF (kpS τ k) = aF τ := by
  have hE := hO.lE
  unfold kpS
  rw [aF_ne _ _ (fun i y hy => by omega)]
  funext j
  unfold aF aN
  congr 1
  exact sm_congr fun p hp => by
    show sgn (grs τ (nE τ)) (j / 4) (j % 4) p * 11 ^ p = sgn τ (j / 4) (j % 4) p * 11 ^ p
    rw [show sgn (grs τ (nE τ)) (j / 4) (j % 4) p = sgn τ (j / 4) (j % 4) p from grs_hi τ hE.2 (by omega)]
theorem kp_b (hO : Ok N τ) {k : Nat} : bF (kpS τ k) = bF τ := by
  have hE := hO.lE
  unfold kpS
  rw [bF_ne _ _ (fun i y hy => by omega)]
  funext j
  unfold bF bN
  congr 1
  exact sm_congr fun p hp => by
    show mng (grs τ (nE τ)) j p * 10 ^ p = mng τ j p * 10 ^ p
    rw [show mng (grs τ (nE τ)) j p = mng τ j p from grs_hi τ hE.2 (by omega)]
end KP
