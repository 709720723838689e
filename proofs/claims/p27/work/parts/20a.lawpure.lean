/-! the law's picture: its rows g, r, a, b out of the same state function σ -/
def agM (σ : Nat → Nat) : Nat := sm (fun e => agn σ e * 2 ^ e) 7
def aN (σ : Nat → Nat) (k d : Nat) : Nat := sm (fun p => sgn σ k d p * 11 ^ p) 10
def bN (σ : Nat → Nat) (k : Nat) : Nat := sm (fun g => mng σ k g * 10 ^ g) 10
def gF (σ : Nat → Nat) (i : Nat) : Int32 := if i = 4 then nI (agM σ) else nI (σ i)
def rF (σ : Nat → Nat) (i : Nat) : Int32 := if i < 6 then nI (rvn σ i) else if i < 12 then zc4 (pbn σ (i - 6)) else nI (scn σ (i - 12))
def aF (σ : Nat → Nat) (i : Nat) : Int64 := lN (aN σ (i / 4) (i % 4))
def bF (σ : Nat → Nat) (k : Nat) : Int64 := lN (bN σ k)
def wL0 (G : zG) (q : Nat → Nat) (f1 f2 : Nat → Int32) (f3 f4 : Nat → Int64) : va_W :=
  [(q 0, .inl (G.2.1, 5, .inl f1)), (q 1, .inl (G.2.1, 18, .inl f2)), (q 2, .inl (G.2.2.2.2, 24, .inr (.inl f3))), (q 3, .inl (G.2.2.2.2, 6, .inr (.inl f4)))]
def wL (G : zG) (q : Nat → Nat) (σ : Nat → Nat) : va_W :=
  [(q 0, .inl (G.2.1, 5, .inl (gF σ))), (q 1, .inl (G.2.1, 18, .inl (rF σ))), (q 2, .inl (G.2.2.2.2, 24, .inr (.inl (aF σ)))), (q 3, .inl (G.2.2.2.2, 6, .inr (.inl (bF σ))))]
/-- small grids, as the law makes them -/
def Sml (σ : Nat → Nat) : Prop := σ 0 ≤ 3 ∧ σ 1 ≤ 2
theorem Sml.s {σ : Nat → Nat} (h : Sml σ) : nS σ ≤ 6 := z_mul_le h.1 h.2
theorem Sml.r {σ : Nat → Nat} (h : Sml σ) : rE σ ≤ 4 := z_mul_le (c := 2) (by have := h.1; omega) h.2
theorem Sml.e {σ : Nat → Nat} (h : Sml σ) : nE σ ≤ 7 := by
  have h1 := h.r
  have h2 : σ 0 * (σ 1 - 1) ≤ 3 * 1 := z_mul_le h.1 (by have := h.2; omega)
  unfold nE
  unfold rE at h1
  omega
/-! digits -/
theorem dg_lt {B : Nat} {f : Nat → Nat} : ∀ n, (∀ i, i < n → f i < B) → sm (fun i => f i * B ^ i) n < B ^ n := by
  intro n
  induction n with
  | zero => exact fun _ => Nat.one_pos
  | succ n ih =>
    intro h
    have h1 := ih (fun i hi => h i (by omega))
    have h2 : (f n + 1) * B ^ n ≤ B * B ^ n := Nat.mul_le_mul_right _ (h n (by omega))
    rw [Nat.add_mul, Nat.one_mul] at h2
    rw [sm, Nat.pow_succ, Nat.mul_comm (B ^ n) B]
    show sm (fun i => f i * B ^ i) n + f n * B ^ n < B * B ^ n
    omega
theorem dg_at {B : Nat} {f : Nat → Nat} (hB : 0 < B) : ∀ n p, (∀ i, i < n → f i < B) → p < n → sm (fun i => f i * B ^ i) n / B ^ p % B = f p := by
  intro n
  induction n with
  | zero => exact fun p _ h => absurd h (Nat.not_lt_zero p)
  | succ n ih =>
    intro p h hp
    have hpos : 0 < B ^ p := Nat.pow_pos hB
    rw [sm]
    show (sm (fun i => f i * B ^ i) n + f n * B ^ n) / B ^ p % B = f p
    by_cases q : p = n
    · subst q
      rw [Nat.add_mul_div_right _ _ hpos, Nat.div_eq_of_lt (dg_lt p (fun i hi => h i (by omega))), Nat.zero_add]
      exact Nat.mod_eq_of_lt (h p (by omega))
    · have e : B ^ n = B ^ (n - p - 1) * B * B ^ p := by rw [← Nat.pow_succ, ← Nat.pow_add]; congr 1; omega
      rw [e, ← Nat.mul_assoc, ← Nat.mul_assoc, Nat.add_mul_div_right _ _ hpos, Nat.add_mul_mod_self_right]
      exact ih p (fun i hi => h i (by omega)) (by omega)
theorem dg_up {B : Nat} {f g : Nat → Nat} {v : Nat} : ∀ n p, p < n → (∀ i, i < n → i ≠ p → g i = f i) → g p = v → sm (fun i => g i * B ^ i) n + f p * B ^ p = sm (fun i => f i * B ^ i) n + v * B ^ p := by
  intro n
  induction n with
  | zero => exact fun p h => absurd h (Nat.not_lt_zero p)
  | succ n ih =>
    intro p hp h hv
    rw [sm, sm]
    show sm (fun i => g i * B ^ i) n + g n * B ^ n + f p * B ^ p = sm (fun i => f i * B ^ i) n + f n * B ^ n + v * B ^ p
    by_cases q : p = n
    · subst q
      rw [hv, sm_congr (f := fun i => g i * B ^ i) (g := fun i => f i * B ^ i) (fun i hi => by show g i * B ^ i = f i * B ^ i; rw [h i (by omega) (by omega)])]
      omega
    · have := ih p (by omega) (fun i hi hn => h i (by omega) hn) hv
      rw [h n (by omega) (fun z => q z.symm)]
      omega
theorem p11_lt : ∀ p, p ≤ 10 → 11 ^ p ≤ 25937424601 := by decide +kernel
theorem p10_lt : ∀ p, p ≤ 10 → 10 ^ p ≤ 10000000000 := by decide +kernel
theorem pB_lt {B p : Nat} (h1 : 1 ≤ B) (h2 : B ≤ 11) (hp : p ≤ 10) : 1 ≤ B ^ p ∧ B ^ p ≤ 25937424601 := ⟨Nat.pow_pos h1, Nat.le_trans (Nat.pow_le_pow_left h2 p) (p11_lt p hp)⟩
section LP
variable {N : Nat} {σ : Nat → Nat}
theorem aN_lt (hO : Ok N σ) {k d : Nat} (hk : k < 36) (hd : d < 4) : aN σ k d < 25937424601 := by
  have := dg_lt (B := 11) (f := fun p => sgn σ k d p) 10 (fun i hi => by have := hO.sg hk hd hi; show sgn σ k d i < 11; omega)
  exact this
theorem bN_lt (hO : Ok N σ) {k : Nat} (hk : k < 36) : bN σ k < 10000000000 := by
  have := dg_lt (B := 10) (f := fun g => mng σ k g) 10 (fun i hi => by have := hO.mg hk hi; show mng σ k i < 10; omega)
  exact this
theorem aN_dg (hO : Ok N σ) {k d p : Nat} (hk : k < 36) (hd : d < 4) (hp : p < 10) : aN σ k d / 11 ^ p % 11 = sgn σ k d p :=
  dg_at (B := 11) (f := fun p => sgn σ k d p) (by omega) 10 p (fun i hi => by have := hO.sg hk hd hi; show sgn σ k d i < 11; omega) hp
theorem bN_dg (hO : Ok N σ) {k g : Nat} (hk : k < 36) (hg : g < 10) : bN σ k / 10 ^ g % 10 = mng σ k g :=
  dg_at (B := 10) (f := fun g => mng σ k g) (by omega) 10 g (fun i hi => by have := hO.mg hk hi; show mng σ k i < 10; omega) hg
theorem ag7 (hO : Ok N σ) : ∀ i, i < 7 → (fun e => agn σ e) i < 2 := fun i hi => by have := hO.ag (show i < 60 by omega); show agn σ i < 2; omega
theorem agM_lt (hO : Ok N σ) : agM σ < 128 := dg_lt (B := 2) (f := fun e => agn σ e) 7 (ag7 hO)
theorem agM_bt (hO : Ok N σ) {e : Nat} (he : e < 7) : agM σ / 2 ^ e % 2 = agn σ e := dg_at (B := 2) (f := fun e => agn σ e) (by omega) 7 e (ag7 hO) he
end LP
theorem aF_at (σ : Nat → Nat) {k d : Nat} (hd : d < 4) : aF σ (4 * k + d) = lN (aN σ k d) := by
  unfold aF
  rw [show (4 * k + d) / 4 = k by omega, show (4 * k + d) % 4 = d by omega]
/-! bits of small numbers -/
theorem b_get : ∀ m, m < 128 → ∀ e, e < 7 → nI m >>> (nI e &&& 31) &&& nI 1 = nI (m / 2 ^ e % 2) := by decide +kernel
theorem b_one : ∀ e, e < 7 → nI 1 <<< (nI e &&& 31) = nI (2 ^ e) := by decide +kernel
theorem b_orN : ∀ m, m < 128 → ∀ e, e < 7 → m ||| 2 ^ e = m + (1 - m / 2 ^ e % 2) * 2 ^ e := by decide +kernel
theorem b_or0 : ∀ e, e < 7 → ∀ m, m < 2 ^ e → m ||| 2 ^ e = m + 2 ^ e := by decide +kernel
theorem b_no : ∀ m, m < 128 → ∀ t, t < 128 → (∀ e, e < 7 → t / 2 ^ e % 2 ≤ m / 2 ^ e % 2) → (nI m &&& (nI t ^^^ (-1)) = nI (m - t) ∧ t ≤ m) := by decide +kernel
theorem b_e7 : ∀ e, e < 7 → 1 ≤ 2 ^ e ∧ 2 ^ e ≤ 64 := by decide +kernel
/-! longs -/
theorem zl_sub {s w : Nat} (hs : s < 2 ^ 30) (hw : w < 2 ^ 30) : (nI s - nI w).toInt64 = lN s - lN w := by
  rw [← Int64.ofInt_toInt ((nI s - nI w).toInt64), Int32.toInt_toInt64, pk_sub_toInt (by omega) (by omega), Int64.ofInt_sub, Int64.ofInt_eq_ofNat, Int64.ofInt_eq_ofNat]
  rfl
theorem zl_up {a a2 s w P : Nat} (hs : s < 2 ^ 30) (hw : w < 2 ^ 30) (h : a2 + w * P = a + s * P) : lN a + (nI s - nI w).toInt64 * lN P = lN a2 := by
  rw [zl_sub hs hw, Int64.sub_mul, lN_mul, lN_mul, Int64.sub_eq_add_neg, ← Int64.add_assoc, lN_add, ← h, ← lN_add, ← Int64.sub_eq_add_neg]
  exact Int64.add_sub_cancel _ _
/-! the rows after one change -/
theorem updL_self (f : Nat → Int64) (j : Nat) : vp_updL f j (f j) = f := by
  funext i
  unfold vp_updL
  by_cases q : i = j
  · rw [if_pos q, q]
  · rw [if_neg q]
section CH
variable (σ : Nat → Nat)
theorem agM_ne {i : Nat} (v : Nat) (h : ∀ e, e < 7 → 4 + e ≠ i) : agM (su σ i v) = agM σ := sm_congr fun e he => by
  show agn (su σ i v) e * 2 ^ e = agn σ e * 2 ^ e
  rw [show agn (su σ i v) e = agn σ e from su_ne σ v (h e he)]
theorem gF_ne {i : Nat} (v : Nat) (h : 64 ≤ i) : ∀ j, j < 5 → gF (su σ i v) j = gF σ j := fun j hj => by
  unfold gF
  rw [agM_ne σ v (fun e he => by omega), su_ne σ v (show j ≠ i by omega)]
theorem rF_ne {i : Nat} (v : Nat) (h : ∀ x, 114 + 53 * x ≠ i ∧ 115 + 53 * x ≠ i ∧ 116 + 53 * x ≠ i) : rF (su σ i v) = rF σ := by
  funext j
  unfold rF
  rw [rvn_ne v (fun x => (h x).1), pbn_ne v (fun x => (h x).2.1), scn_ne v (fun x => (h x).2.2)]
theorem aN_ne {i : Nat} (v k d : Nat) (h : ∀ p, p < 10 → 64 + 53 * k + (10 * d + p) ≠ i) : aN (su σ i v) k d = aN σ k d := sm_congr fun p hp => by
  show sgn (su σ i v) k d p * 11 ^ p = sgn σ k d p * 11 ^ p
  rw [show sgn (su σ i v) k d p = sgn σ k d p from su_ne σ v (h p hp)]
theorem bN_ne {i : Nat} (v k : Nat) (h : ∀ g, g < 10 → 104 + 53 * k + g ≠ i) : bN (su σ i v) k = bN σ k := sm_congr fun g hg => by
  show mng (su σ i v) k g * 10 ^ g = mng σ k g * 10 ^ g
  rw [show mng (su σ i v) k g = mng σ k g from su_ne σ v (h g hg)]
theorem aF_ne {i : Nat} (v : Nat) (h : ∀ k y, y < 40 → 64 + 53 * k + y ≠ i) : aF (su σ i v) = aF σ := by
  funext j
  unfold aF
  rw [aN_ne σ v _ _ (fun p hp => by have := h (j / 4) (10 * (j % 4) + p) (by omega); omega)]
theorem bF_ne {i : Nat} (v : Nat) (h : ∀ k y, y < 10 → 104 + 53 * k + y ≠ i) : bF (su σ i v) = bF σ := by
  funext k
  unfold bF
  rw [bN_ne σ v k (fun g hg => h k g hg)]
theorem aF_sg {k d p : Nat} (hd : d < 4) (hp : p < 10) (v : Nat) : vp_updL (aF σ) (4 * k + d) (lN (aN (su σ (64 + 53 * k + (10 * d + p)) v) k d)) = aF (su σ (64 + 53 * k + (10 * d + p)) v) := by
  funext j
  unfold vp_updL
  by_cases q : j = 4 * k + d
  · rw [if_pos q, q, aF_at _ hd]
  · rw [if_neg q]
    unfold aF
    rw [aN_ne σ v _ _ (fun y hy => ?_)]
    intro z
    apply q
    have h1 : 10 * (j % 4) + y < 40 := by omega
    have h2 : 10 * d + p < 40 := by omega
    have h3 : j / 4 = k ∧ 10 * (j % 4) + y = 10 * d + p := by
      generalize 10 * (j % 4) + y = a at h1 z ⊢
      generalize 10 * d + p = b at h2 z ⊢
      omega
    omega
theorem bF_mn {k g : Nat} (hg : g < 10) (v : Nat) : vp_updL (bF σ) k (lN (bN (su σ (104 + 53 * k + g) v) k)) = bF (su σ (104 + 53 * k + g) v) := by
  funext j
  unfold vp_updL
  by_cases q : j = k
  · rw [if_pos q, q]
    rfl
  · rw [if_neg q]
    unfold bF
    rw [bN_ne σ v _ (fun y hy => by omega)]
theorem aN_up {k d p : Nat} (hp : p < 10) (v : Nat) : aN (su σ (64 + 53 * k + (10 * d + p)) v) k d + sgn σ k d p * 11 ^ p = aN σ k d + v * 11 ^ p :=
  dg_up (B := 11) (f := fun p => sgn σ k d p) (g := fun y => sgn (su σ (64 + 53 * k + (10 * d + p)) v) k d y) 10 p hp (fun i hi hn => su_ne σ v (by omega)) (su_at σ _ v)
theorem bN_up {k g : Nat} (hg : g < 10) (v : Nat) : bN (su σ (104 + 53 * k + g) v) k + mng σ k g * 10 ^ g = bN σ k + v * 10 ^ g :=
  dg_up (B := 10) (f := fun g => mng σ k g) (g := fun y => mng (su σ (104 + 53 * k + g) v) k y) 10 g hg (fun i hi hn => su_ne σ v (by omega)) (su_at σ _ v)
theorem agM_up {e : Nat} (he : e < 7) (v : Nat) : agM (su σ (4 + e) v) + agn σ e * 2 ^ e = agM σ + v * 2 ^ e :=
  dg_up (B := 2) (f := fun e => agn σ e) (g := fun y => agn (su σ (4 + e) v) y) 7 e he (fun i hi hn => su_ne σ v (by omega)) (su_at σ _ v)
theorem rF_rv {k : Nat} (hk : k < 6) (v : Nat) : ∀ j, j < 18 → upd (rF σ) k (nI v) j = rF (su σ (114 + 53 * k) v) j := fun j hj => by
  unfold upd rF
  rw [pbn_ne v (fun x => by omega), scn_ne v (fun x => by omega)]
  by_cases q : j = k
  · rw [if_pos q, if_pos (by omega), q]
    exact congrArg nI (su_at σ _ v).symm
  · rw [if_neg q, show rvn (su σ (114 + 53 * k) v) j = rvn σ j from su_ne σ v (by omega)]
theorem rF_pb {k : Nat} (hk : k < 6) (v : Nat) : ∀ j, j < 18 → upd (rF σ) (6 + k) (nI v) j = rF (su σ (115 + 53 * k) (v + 1)) j := fun j hj => by
  unfold upd rF
  rw [rvn_ne (v + 1) (fun x => by omega), scn_ne (v + 1) (fun x => by omega)]
  by_cases q : j = 6 + k
  · rw [if_pos q, if_neg (by omega), if_pos (by omega), q, show 6 + k - 6 = k by omega]
    unfold zc4
    rw [show pbn (su σ (115 + 53 * k) (v + 1)) k = v + 1 from su_at σ _ _, if_neg (by omega)]
    rfl
  · rw [if_neg q]
    by_cases h : j < 6
    · rw [if_pos h, if_pos h]
    · rw [if_neg h, if_neg h]
      by_cases h2 : j < 12
      · rw [if_pos h2, if_pos h2, show pbn (su σ (115 + 53 * k) (v + 1)) (j - 6) = pbn σ (j - 6) from su_ne σ _ (by omega)]
      · rw [if_neg h2, if_neg h2]
theorem rF_sc {k : Nat} (hk : k < 6) (v : Nat) : ∀ j, j < 18 → upd (rF σ) (12 + k) (nI v) j = rF (su σ (116 + 53 * k) v) j := fun j hj => by
  unfold upd rF
  rw [rvn_ne v (fun x => by omega), pbn_ne v (fun x => by omega)]
  by_cases q : j = 12 + k
  · rw [if_pos q, if_neg (by omega), if_neg (by omega), q, show 12 + k - 12 = k by omega]
    exact congrArg nI (su_at σ _ v).symm
  · rw [if_neg q]
    by_cases h : j < 6
    · rw [if_pos h, if_pos h]
    · rw [if_neg h, if_neg h]
      by_cases h2 : j < 12
      · rw [if_pos h2, if_pos h2]
      · rw [if_neg h2, if_neg h2, show scn (su σ (116 + 53 * k) v) (j - 12) = scn σ (j - 12) from su_ne σ v (by omega)]
theorem gF_ag {e : Nat} (he : e < 7) (v : Nat) : ∀ j, j < 5 → upd (gF σ) 4 (nI (agM (su σ (4 + e) v))) j = gF (su σ (4 + e) v) j := fun j hj => by
  unfold upd gF
  by_cases q : j = 4
  · rw [if_pos q, if_pos q]
  · rw [if_neg q, if_neg q, if_neg q, su_ne σ v (by omega)]
theorem gF_23 {i : Nat} (hi : i = 2 ∨ i = 3) (v : Nat) : ∀ j, j < 5 → upd (gF σ) i (nI v) j = gF (su σ i v) j := fun j hj => by
  unfold upd gF
  rw [agM_ne σ v (fun e he => by omega)]
  by_cases q : j = i
  · rw [if_pos q, if_neg (by omega), q, su_at]
  · rw [if_neg q, su_ne σ v q]
end CH
/-! the cells in other words -/
theorem zatL_ext {D : va_G} {cl : List vw_C} {q : Nat} {c : ClassId} {n : Nat} {f g : Nat → Int64} {H : Heap} (h : ∀ j, j < n → f j = g j) (hP : va_at D cl (q, .inl (c, n, .inr (.inl f))) H) : va_at D cl (q, .inl (c, n, .inr (.inl g))) H := by
  have h0 : H[q]? = some (vp_cell c (n, .inr (.inl f))) := hP
  show H[q]? = some (vp_cell c (n, .inr (.inl g)))
  rw [h0, vp_cell_l, vp_cell_l]
  exact congrArg some (arrV_ext (F := fun j => .long (f j)) (K := fun j => .long (g j)) (fun j hj => by show Value.long (f j) = .long (g j); rw [h j hj]))
theorem wL_x {G : zG} {q : Nat → Nat} {σ : Nat → Nat} {f1 f2 : Nat → Int32} {f3 f4 : Nat → Int64} {w : va_W} {H : Heap} (h1 : ∀ j, j < 5 → f1 j = gF σ j) (h2 : ∀ j, j < 18 → f2 j = rF σ j) (h3 : ∀ j, j < 24 → f3 j = aF σ j) (h4 : ∀ j, j < 6 → f4 j = bF σ j) (hP : va_P G.1 vwCl (wL0 G q f1 f2 f3 f4 ++ w) H) : va_P G.1 vwCl (wL G q σ ++ w) H := by
  obtain ⟨p0, hP⟩ := zP_cons.mp hP
  obtain ⟨p1, hP⟩ := zP_cons.mp hP
  obtain ⟨p2, hP⟩ := zP_cons.mp hP
  obtain ⟨p3, hP⟩ := zP_cons.mp hP
  exact zP_cons.mpr ⟨zat_ext h1 p0, zP_cons.mpr ⟨zat_ext h2 p1, zP_cons.mpr ⟨zatL_ext h3 p2, zP_cons.mpr ⟨zatL_ext h4 p3, hP⟩⟩⟩⟩
theorem wL_x0 {G : zG} {q : Nat → Nat} {σ : Nat → Nat} {f1 f2 : Nat → Int32} {f3 f4 : Nat → Int64} {H : Heap} (h1 : ∀ j, j < 5 → f1 j = gF σ j) (h2 : ∀ j, j < 18 → f2 j = rF σ j) (h3 : ∀ j, j < 24 → f3 j = aF σ j) (h4 : ∀ j, j < 6 → f4 j = bF σ j) (hP : va_P G.1 vwCl (wL0 G q f1 f2 f3 f4) H) : va_P G.1 vwCl (wL G q σ) H := by
  have h := wL_x (w := []) h1 h2 h3 h4 (by rw [List.append_nil]; exact hP)
  rw [List.append_nil] at h
  exact h
theorem wL_map (G : zG) (q : Nat → Nat) (σ τ : Nat → Nat) : (wL G q τ).map (·.1) = (wL G q σ).map (·.1) := rfl
