/-! the law's blocks: all sheets from which one comes to a sheet, as bits -/
def bB (σ : Nat → Nat) (e : Nat) : Nat := 2 ^ fS σ e ||| 2 ^ sS σ e
def bS (σ : Nat → Nat) (S e : Nat) : Nat := if agn σ e = 1 ∧ S &&& bB σ e ≠ 0 then S ||| bB σ e else S
def bE (σ : Nat → Nat) (S : Nat) : Nat → Nat
  | 0 => S
  | e + 1 => bS σ (bE σ S e) e
def bR (σ : Nat → Nat) (S : Nat) : Nat → Nat
  | 0 => S
  | n + 1 => bE σ (bR σ S n) (nE σ)
def sgm (c r m : Nat) : Nat → Nat := fun i => if i = 0 then c else if i = 1 then r else m / 2 ^ (i - 4) % 2
def bck (τ : Nat → Nat) (k : Nat) : Bool :=
  decide (bR τ (2 ^ k) 6 / 2 ^ blk τ (nE τ) k % 2 = 1 ∧ ∀ j, j < blk τ (nE τ) k → bR τ (2 ^ k) 6 / 2 ^ j % 2 = 0)
theorem g_bl : ∀ c, c < 4 → ∀ r, r < 3 → ∀ m, m < 2 ^ ((c - 1) * r + c * (r - 1)) → ∀ k, k < c * r → bck (sgm c r m) k = true := by decide +kernel
section BL
variable {N : Nat} {σ : Nat → Nat}
theorem bB_lt {e : Nat} (h1 : fS σ e < 6) (h2 : sS σ e < 6) : bB σ e < 64 := by
  have a1 : 2 ^ fS σ e < 2 ^ 6 := Nat.pow_lt_pow_right (by omega) h1
  have a2 : 2 ^ sS σ e < 2 ^ 6 := Nat.pow_lt_pow_right (by omega) h2
  exact Nat.or_lt_two_pow (n := 6) a1 a2
theorem bE_lt (hO : Ok N σ) (hM : Sml σ) {S : Nat} (hS : S < 64) : ∀ e, e ≤ nE σ → bE σ S e < 64 := by
  intro e
  induction e with
  | zero => exact fun _ => hS
  | succ e ih =>
    intro he
    have h1 := ih (by omega)
    have h2 := its_f hO hM (show e < nE σ by omega)
    rw [bE]
    unfold bS
    split
    · exact Nat.or_lt_two_pow (n := 6) h1 (bB_lt h2.1 h2.2)
    · exact h1
theorem bR_lt (hO : Ok N σ) (hM : Sml σ) {S : Nat} (hS : S < 64) : ∀ n, bR σ S n < 64 := by
  intro n
  induction n with
  | zero => exact hS
  | succ n ih => exact bE_lt hO hM ih _ (Nat.le_refl _)
theorem blk_cg {σ τ : Nat → Nat} (h0 : τ 0 = σ 0) (h1 : τ 1 = σ 1) : ∀ n, (∀ e, e < n → agn τ e = agn σ e) → blk τ n = blk σ n := by
  intro n
  induction n with
  | zero => exact fun _ => rfl
  | succ n ih =>
    intro h
    have ih := ih (fun e he => h e (by omega))
    rw [blk, blk, ih]
    unfold blS
    rw [h n (by omega), fS_lo h0 h1, sS_lo h0 h1]
theorem bE_cg {σ τ : Nat → Nat} (h0 : τ 0 = σ 0) (h1 : τ 1 = σ 1) (S : Nat) : ∀ n, (∀ e, e < n → agn τ e = agn σ e) → bE τ S n = bE σ S n := by
  intro n
  induction n with
  | zero => exact fun _ => rfl
  | succ n ih =>
    intro h
    rw [bE, bE, ih (fun e he => h e (by omega))]
    unfold bS bB
    rw [h n (by omega), fS_lo h0 h1, sS_lo h0 h1]
theorem bR_cg {σ τ : Nat → Nat} (h0 : τ 0 = σ 0) (h1 : τ 1 = σ 1) (h : ∀ e, e < nE σ → agn τ e = agn σ e) (S : Nat) : ∀ n, bR τ S n = bR σ S n := by
  intro n
  induction n with
  | zero => rfl
  | succ n ih => rw [bR, bR, ih, nE_lo h0 h1, bE_cg h0 h1 _ _ h]
theorem bl_is (hO : Ok N σ) (hM : Sml σ) {k : Nat} (hk : k < nS σ) : bR σ (2 ^ k) 6 / 2 ^ blk σ (nE σ) k % 2 = 1 ∧ ∀ j, j < blk σ (nE σ) k → bR σ (2 ^ k) 6 / 2 ^ j % 2 = 0 := by
  have hc := hO.c
  have hE := hO.lE
  have hm := dg_lt (B := 2) (f := fun e => agn σ e) (nE σ) (fun i hi => by have := hO.ag (show i < 60 by omega); show agn σ i < 2; omega)
  have hag : ∀ e, e < nE σ → agn (sgm (σ 0) (σ 1) (sm (fun e => agn σ e * 2 ^ e) (nE σ))) e = agn σ e := fun e he => by
    unfold agn sgm
    rw [if_neg (by omega), if_neg (by omega), show 4 + e - 4 = e by omega]
    exact dg_at (B := 2) (f := fun e => agn σ e) (by omega) (nE σ) e (fun i hi => by have := hO.ag (show i < 60 by omega); show agn σ i < 2; omega) he
  have h := g_bl (σ 0) (by have := hM.1; omega) (σ 1) (by have := hM.2; omega) _ hm k hk
  have h0 : sgm (σ 0) (σ 1) (sm (fun e => agn σ e * 2 ^ e) (nE σ)) 0 = σ 0 := rfl
  have h1 : sgm (σ 0) (σ 1) (sm (fun e => agn σ e * 2 ^ e) (nE σ)) 1 = σ 1 := rfl
  generalize sgm (σ 0) (σ 1) (sm (fun e => agn σ e * 2 ^ e) (nE σ)) = τ at h hag h0 h1
  have h := of_decide_eq_true h
  rw [bR_cg h0 h1 hag, nE_lo h0 h1, blk_cg h0 h1 _ hag] at h
  exact h
end BL
theorem agn_0 {N : Nat} {σ : Nat → Nat} (hO : Ok N σ) {e : Nat} (he : e < 60) : ¬ agn σ e = 1 → agn σ e = 0 := fun h => by have := hO.ag he; omega
/-! publishing: all edges of the sheet are agreed -/
theorem sm_le2 {f g : Nat → Nat} : ∀ n, (∀ i, i < n → f i ≤ g i) → sm f n ≤ sm g n ∧ (¬ sm f n < sm g n → ∀ i, i < n → f i = g i) := by
  intro n
  induction n with
  | zero => exact fun _ => ⟨Nat.le_refl 0, fun _ i hi => absurd hi (Nat.not_lt_zero i)⟩
  | succ n ih =>
    intro h
    have h1 := ih (fun i hi => h i (by omega))
    have h2 := h n (by omega)
    rw [sm, sm]
    refine ⟨by omega, fun q i hi => ?_⟩
    rcases Nat.lt_succ_iff_lt_or_eq.mp hi with z | z
    · exact h1.2 (by omega) i z
    · subst z; omega
def aOk (σ : Nat → Nat) (k d : Nat) : Prop := eO σ k d = 60 ∨ agF σ (eO σ k d) = 1
def aAl (σ : Nat → Nat) (k n : Nat) : Prop := ∀ d, d < n → aOk σ k d
theorem aAl_iff (σ : Nat → Nat) (k : Nat) : aAl σ k 4 ↔ ¬ nAd σ k < nEd σ k := by
  have h := sm_le2 (f := fun d => if agF σ (eO σ k d) = 1 then 1 else 0) (g := fun d => if eO σ k d = 60 then 0 else 1) 4 (fun i _ => by
    show (if agF σ (eO σ k i) = 1 then 1 else 0) ≤ (if eO σ k i = 60 then 0 else 1)
    by_cases z : eO σ k i = 60
    · rw [if_pos z, z, agF_60]
      decide
    · rw [if_neg z]
      split <;> omega)
  constructor
  · intro ha
    have e : nAd σ k = nEd σ k := sm_congr fun i hi => by
      show (if agF σ (eO σ k i) = 1 then 1 else 0) = (if eO σ k i = 60 then 0 else 1)
      by_cases z : eO σ k i = 60
      · rw [if_pos z, z, agF_60]
        rfl
      · rw [if_neg z, if_pos ((ha i hi).resolve_left z)]
    omega
  · intro hn d hd
    have := h.2 hn d hd
    have : (if agF σ (eO σ k d) = 1 then 1 else 0) = (if eO σ k d = 60 then 0 else 1) := this
    unfold aOk
    by_cases z : eO σ k d = 60
    · exact Or.inl z
    · rw [if_neg z] at this
      refine Or.inr (Decidable.byContradiction fun y => ?_)
      rw [if_neg y] at this
      omega
/-! settling as the law does it -/
def bst (σ : Nat → Nat) (k1 d1 k2 d2 q : Nat) : Nat :=
  if mns σ k1 d1 q = 10 then 10 else if sgn σ k2 d2 q < 10 ∧ mng σ k2 (sgn σ k2 d2 q) = mns σ k1 d1 q then sgn σ k2 d2 q else lws σ k2 (mns σ k1 d1 q)
def nxt (σ : Nat → Nat) (k1 d1 k2 d2 n : Nat) : Nat := sm (fun q => (if q < n then bst σ k1 d1 k2 d2 q else sgn σ k2 d2 q) * 11 ^ q) 10
def mny (σ : Nat → Nat) (k1 d1 k2 d2 n : Nat) : Nat := sm (fun q => if bst σ k1 d1 k2 d2 q = sgn σ k2 d2 q then 0 else 1) n
def lck (σ : Nat → Nat) (k1 d1 k2 n : Nat) : Prop := ∃ q, q < n ∧ mns σ k1 d1 q < 10 ∧ lws σ k2 (mns σ k1 d1 q) = 10
theorem bst_le (σ : Nat → Nat) {N : Nat} (hO : Ok N σ) {k1 d1 k2 d2 q : Nat} (hk : k2 < 36) (hd : d2 < 4) (hq : q < 10) : bst σ k1 d1 k2 d2 q ≤ 10 := by
  have h1 := hO.sg hk hd hq
  have h2 := lws_le σ k2 (mns σ k1 d1 q)
  unfold bst
  split
  · omega
  · split <;> omega
theorem mny_le (σ : Nat → Nat) (k1 d1 k2 d2 n : Nat) : mny σ k1 d1 k2 d2 n ≤ n := sm_01 n
theorem nxt_0 (σ : Nat → Nat) (k1 d1 k2 d2 : Nat) : nxt σ k1 d1 k2 d2 0 = aN σ k2 d2 := sm_congr fun q _ => by
  show (if q < 0 then bst σ k1 d1 k2 d2 q else sgn σ k2 d2 q) * 11 ^ q = sgn σ k2 d2 q * 11 ^ q
  rw [if_neg (Nat.not_lt_zero q)]
theorem nxt_lt {σ : Nat → Nat} {N : Nat} (hO : Ok N σ) {k1 d1 k2 d2 : Nat} (hk : k2 < 36) (hd : d2 < 4) (n : Nat) : nxt σ k1 d1 k2 d2 n < 25937424601 := by
  have := dg_lt (B := 11) (f := fun q => if q < n then bst σ k1 d1 k2 d2 q else sgn σ k2 d2 q) 10 (fun i hi => by
    show (if i < n then bst σ k1 d1 k2 d2 i else sgn σ k2 d2 i) < 11
    have h1 := bst_le σ hO (k1 := k1) (d1 := d1) hk hd hi
    have h2 := hO.sg hk hd hi
    split <;> omega)
  exact this
theorem nxt_dg {σ : Nat → Nat} {N : Nat} (hO : Ok N σ) {k1 d1 k2 d2 n : Nat} (hk : k2 < 36) (hd : d2 < 4) (hn : n < 10) : nxt σ k1 d1 k2 d2 n / 11 ^ n % 11 = sgn σ k2 d2 n := by
  have := dg_at (B := 11) (f := fun q => if q < n then bst σ k1 d1 k2 d2 q else sgn σ k2 d2 q) (by omega) 10 n (fun i hi => by
    show (if i < n then bst σ k1 d1 k2 d2 i else sgn σ k2 d2 i) < 11
    have h1 := bst_le σ hO (k1 := k1) (d1 := d1) hk hd hi
    have h2 := hO.sg hk hd hi
    split <;> omega) hn
  have this : nxt σ k1 d1 k2 d2 n / 11 ^ n % 11 = (if n < n then bst σ k1 d1 k2 d2 n else sgn σ k2 d2 n) := this
  rw [this, if_neg (Nat.lt_irrefl n)]
theorem nxt_up (σ : Nat → Nat) (k1 d1 k2 d2 : Nat) {n : Nat} (hn : n < 10) : nxt σ k1 d1 k2 d2 (n + 1) + sgn σ k2 d2 n * 11 ^ n = nxt σ k1 d1 k2 d2 n + bst σ k1 d1 k2 d2 n * 11 ^ n := by
  have := dg_up (B := 11) (f := fun q => if q < n then bst σ k1 d1 k2 d2 q else sgn σ k2 d2 q) (g := fun q => if q < n + 1 then bst σ k1 d1 k2 d2 q else sgn σ k2 d2 q) (v := bst σ k1 d1 k2 d2 n) 10 n hn (fun i hi hne => by
    show (if i < n + 1 then bst σ k1 d1 k2 d2 i else sgn σ k2 d2 i) = (if i < n then bst σ k1 d1 k2 d2 i else sgn σ k2 d2 i)
    by_cases q : i < n
    · rw [if_pos q, if_pos (by omega)]
    · rw [if_neg q, if_neg (by omega)]) (if_pos (by omega))
  have this : nxt σ k1 d1 k2 d2 (n + 1) + (if n < n then bst σ k1 d1 k2 d2 n else sgn σ k2 d2 n) * 11 ^ n = nxt σ k1 d1 k2 d2 n + bst σ k1 d1 k2 d2 n * 11 ^ n := this
  rw [if_neg (Nat.lt_irrefl n)] at this
  exact this
section ST
variable {N k1 d1 k2 d2 : Nat} {σ : Nat → Nat}
theorem stl_hi (hd2 : d2 < 4) (p q : Nat) (hpq : p ≤ q) (hq : q < 10) : sgn (stl σ k1 d1 k2 d2 p) k2 d2 q = sgn σ k2 d2 q :=
  stl_own p (64 + 53 * k2 + (10 * d2 + q)) (fun r hr => by omega)
theorem stl_mg (hd2 : d2 < 4) (p : Nat) (hp : p ≤ 10) {k g : Nat} (hg : g < 10) : mng (stl σ k1 d1 k2 d2 p) k g = mng σ k g :=
  stl_own p (104 + 53 * k + g) (fun r hr => by
    have hy : 10 * d2 + r < 40 := by omega
    generalize 10 * d2 + r = y at hy ⊢
    omega)
theorem lws_cg {τ σ : Nat → Nat} {k v : Nat} (h : ∀ g, g < 10 → mng τ k g = mng σ k g) : lws τ k v = lws σ k v := by
  have key : ∀ n, n ≤ 10 → fst1 (fun g => decide (mng τ k g = v)) n = fst1 (fun g => decide (mng σ k g = v)) n := by
    intro n
    induction n with
    | zero => exact fun _ => rfl
    | succ n ih =>
      intro hn
      have e : decide (mng τ k n = v) = decide (mng σ k n = v) := by rw [h n (by omega)]
      rw [fst1, fst1, ih (by omega), e]
  exact key 10 (Nat.le_refl 10)
theorem mns_2 (hO : Ok N σ) (hk2 : k2 < 36) (hd2 : d2 < 4) {p : Nat} (hp : p < 10) : mns (stl σ k1 d1 k2 d2 p) k2 d2 p = mns σ k2 d2 p := by
  have hs := hO.sg hk2 hd2 hp
  have e := stl_hi (σ := σ) (k1 := k1) (d1 := d1) (k2 := k2) hd2 p p (Nat.le_refl p) hp
  unfold mns
  rw [e]
  by_cases z : sgn σ k2 d2 p = 10
  · rw [if_pos z, if_pos z]
  · rw [if_neg z, if_neg z]
    exact stl_mg hd2 p (by omega) (by omega)
/-- one place: what the law finds is what settling puts there -/
theorem bst_eq (hO : Ok N σ) (hk1 : k1 < 36) (hd1 : d1 < 4) (hk2 : k2 < 36) (hd2 : d2 < 4) {p : Nat} (hp : p < 10) :
    (mns σ k1 d1 p = mns σ k2 d2 p → bst σ k1 d1 k2 d2 p = sgn σ k2 d2 p) ∧ (mns σ k1 d1 p ≠ mns σ k2 d2 p → bst σ k1 d1 k2 d2 p = (if mns σ k1 d1 p = 10 then 10 else lws σ k2 (mns σ k1 d1 p))) := by
  have hs := hO.sg hk2 hd2 hp
  have hm1 := hO.mn hk1 hd1 hp
  unfold bst
  constructor
  · intro h
    by_cases a : mns σ k1 d1 p = 10
    · rw [if_pos a]
      rw [a] at h
      unfold mns at h
      by_cases b : sgn σ k2 d2 p = 10
      · exact b.symm
      · rw [if_neg b] at h
        have := hO.mg hk2 (show sgn σ k2 d2 p < 10 by omega)
        omega
    · rw [if_neg a]
      have b : ¬ sgn σ k2 d2 p = 10 := fun b => by
        unfold mns at h
        rw [if_pos b] at h
        exact a h
      have e : mns σ k2 d2 p = mng σ k2 (sgn σ k2 d2 p) := if_neg b
      rw [if_pos ⟨by omega, by rw [← e]; exact h.symm⟩]
  · intro h
    by_cases a : mns σ k1 d1 p = 10
    · rw [if_pos a, if_pos a]
    · rw [if_neg a, if_neg a, if_neg]
      intro ⟨b, c⟩
      apply h
      have e : mns σ k2 d2 p = mng σ k2 (sgn σ k2 d2 p) := if_neg (by omega)
      rw [e, c]
theorem stl_bst (hO : Ok N σ) (hk1 : k1 < 36) (hd1 : d1 < 4) (hk2 : k2 < 36) (hd2 : d2 < 4) (hne : ¬ (k1 = k2 ∧ d1 = d2)) : ∀ p, p ≤ 10 → ∀ q, q < p → sgn (stl σ k1 d1 k2 d2 p) k2 d2 q = bst σ k1 d1 k2 d2 q := by
  intro p
  induction p with
  | zero => exact fun _ q hq => absurd hq (Nat.not_lt_zero q)
  | succ p ih =>
    intro hp q hq
    have ih := ih (by omega)
    have m1 : mns (stl σ k1 d1 k2 d2 p) k1 d1 p = mns σ k1 d1 p := stl_mns hO hk1 hd1 hd2 hne (by omega) (by omega)
    have m2 : mns (stl σ k1 d1 k2 d2 p) k2 d2 p = mns σ k2 d2 p := mns_2 hO hk2 hd2 (by omega)
    have l1 : ∀ v, lws (stl σ k1 d1 k2 d2 p) k2 v = lws σ k2 v := fun v => lws_cg (fun g hg => stl_mg hd2 p (by omega) hg)
    have hb := bst_eq (k1 := k1) (d1 := d1) (k2 := k2) (d2 := d2) (p := p) hO hk1 hd1 hk2 hd2 (by omega)
    have hh := stl_hi (σ := σ) (k1 := k1) (d1 := d1) (k2 := k2) hd2 p p (Nat.le_refl p) (by omega)
    rw [show stl σ k1 d1 k2 d2 (p + 1) = stS (stl σ k1 d1 k2 d2 p) k1 d1 k2 d2 p from rfl]
    unfold stS
    rw [m1, m2, l1]
    by_cases e : mns σ k1 d1 p = mns σ k2 d2 p
    · rw [if_pos e]
      rcases Nat.lt_succ_iff_lt_or_eq.mp hq with z | z
      · exact ih q z
      · rw [z, hh, hb.1 e]
    · rw [if_neg e]
      rcases Nat.lt_succ_iff_lt_or_eq.mp hq with z | z
      · rw [← ih q z]
        exact su_ne _ _ (by omega)
      · rw [z, hb.2 e]
        exact su_at _ _ _
theorem nxt_10 (hO : Ok N σ) (hk1 : k1 < 36) (hd1 : d1 < 4) (hk2 : k2 < 36) (hd2 : d2 < 4) (hne : ¬ (k1 = k2 ∧ d1 = d2)) : nxt σ k1 d1 k2 d2 10 = aN (stl σ k1 d1 k2 d2 10) k2 d2 := sm_congr fun q hq => by
  show (if q < 10 then bst σ k1 d1 k2 d2 q else sgn σ k2 d2 q) * 11 ^ q = sgn (stl σ k1 d1 k2 d2 10) k2 d2 q * 11 ^ q
  rw [if_pos hq, stl_bst hO hk1 hd1 hk2 hd2 hne 10 (Nat.le_refl _) q hq]
theorem lck_iff (hO : Ok N σ) (hk1 : k1 < 36) (hd1 : d1 < 4) (hk2 : k2 < 36) (hd2 : d2 < 4) (hne : ¬ (k1 = k2 ∧ d1 = d2)) : lck σ k1 d1 k2 10 ↔ sbd σ k1 d1 k2 d2 < 10 := by
  have key : ∀ q, q < 10 → (sBad (stl σ k1 d1 k2 d2 q) k1 d1 k2 d2 q = true ↔ (mns σ k1 d1 q < 10 ∧ lws σ k2 (mns σ k1 d1 q) = 10)) := fun q hq => by
    have m1 : mns (stl σ k1 d1 k2 d2 q) k1 d1 q = mns σ k1 d1 q := stl_mns hO hk1 hd1 hd2 hne (by omega) (by omega)
    have m2 : mns (stl σ k1 d1 k2 d2 q) k2 d2 q = mns σ k2 d2 q := mns_2 hO hk2 hd2 hq
    have l1 : ∀ v, lws (stl σ k1 d1 k2 d2 q) k2 v = lws σ k2 v := fun v => lws_cg (fun g hg => stl_mg hd2 q (by omega) hg)
    have hm := hO.mn hk1 hd1 hq
    have hs := hO.sg hk2 hd2 hq
    unfold sBad
    rw [m1, m2, l1, decide_eq_true_iff]
    constructor
    · intro ⟨a, b, c⟩
      exact ⟨by omega, c⟩
    · intro ⟨a, c⟩
      refine ⟨fun e => ?_, by omega, c⟩
      have b : ¬ sgn σ k2 d2 q = 10 := fun b => by
        rw [e] at a
        unfold mns at a
        rw [if_pos b] at a
        omega
      have e2 : mns σ k2 d2 q = mng σ k2 (sgn σ k2 d2 q) := if_neg b
      have hf := fst1_nl (f := fun g => decide (mng σ k2 g = mns σ k1 d1 q)) (n := 10) (by have c : fst1 (fun g => decide (mng σ k2 g = mns σ k1 d1 q)) 10 = 10 := c; omega) (sgn σ k2 d2 q) (by omega)
      exact of_decide_eq_false hf (by rw [← e2, e])
  constructor
  · intro ⟨q, h1, h2⟩
    refine Decidable.byContradiction fun z => ?_
    have := fst1_nl z q h1
    rw [(key q h1).mpr h2] at this
    cases this
  · intro h
    have h1 : sBad (stl σ k1 d1 k2 d2 (sbd σ k1 d1 k2 d2)) k1 d1 k2 d2 (sbd σ k1 d1 k2 d2) = true := fst1_sat (f := fun q => sBad (stl σ k1 d1 k2 d2 q) k1 d1 k2 d2 q) (n := 10) h
    exact ⟨_, h, (key _ h).mp h1⟩
theorem mny_eq (hO : Ok N σ) (hk1 : k1 < 36) (hd1 : d1 < 4) (hk2 : k2 < 36) (hd2 : d2 < 4) (hne : ¬ (k1 = k2 ∧ d1 = d2)) (hb : ¬ lck σ k1 d1 k2 10) : mny σ k1 d1 k2 d2 10 = stc σ k1 d1 k2 d2 10 := sm_congr fun q hq => by
  show (if bst σ k1 d1 k2 d2 q = sgn σ k2 d2 q then 0 else 1) = (if mns (stl σ k1 d1 k2 d2 q) k1 d1 q = mns (stl σ k1 d1 k2 d2 q) k2 d2 q then 0 else 1)
  have m1 : mns (stl σ k1 d1 k2 d2 q) k1 d1 q = mns σ k1 d1 q := stl_mns hO hk1 hd1 hd2 hne (by omega) (by omega)
  have m2 : mns (stl σ k1 d1 k2 d2 q) k2 d2 q = mns σ k2 d2 q := mns_2 hO hk2 hd2 hq
  have hm := hO.mn hk1 hd1 hq
  have h := bst_eq (k1 := k1) (d1 := d1) (k2 := k2) (d2 := d2) (p := q) hO hk1 hd1 hk2 hd2 hq
  rw [m1, m2]
  by_cases e : mns σ k1 d1 q = mns σ k2 d2 q
  · rw [if_pos e, if_pos (h.1 e)]
  · rw [if_neg e, if_neg]
    rw [h.2 e]
    intro z
    apply e
    by_cases a : mns σ k1 d1 q = 10
    · rw [if_pos a] at z
      rw [a]
      unfold mns
      rw [if_pos z.symm]
    · rw [if_neg a] at z
      have hl : lws σ k2 (mns σ k1 d1 q) ≠ 10 := fun y => hb ⟨q, hq, by omega, y⟩
      have hle := lws_le σ k2 (mns σ k1 d1 q)
      have hsat := fst1_sat (f := fun g => decide (mng σ k2 g = mns σ k1 d1 q)) (n := 10) (by show lws σ k2 (mns σ k1 d1 q) < 10; omega)
      have hsat : mng σ k2 (lws σ k2 (mns σ k1 d1 q)) = mns σ k1 d1 q := of_decide_eq_true hsat
      have e2 : mns σ k2 d2 q = mng σ k2 (sgn σ k2 d2 q) := if_neg (by omega)
      rw [e2, ← z, hsat]
end ST
