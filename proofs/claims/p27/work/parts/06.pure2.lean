/-! the atlas's cells after one change -/
theorem upd_nI (g : Nat → Nat) (j v : Nat) : upd (fun i => nI (g i)) j (nI v) = fun i => nI (su g j v i) := by
  funext i
  unfold upd su
  split <;> rfl
theorem sgF_ne {σ : Nat → Nat} {i : Nat} (v : Nat) (h : ∀ x, 64 + 53 * (x / 40) + x % 40 ≠ i) : sgF (su σ i v) = sgF σ := funext fun x => su_ne σ v (h x)
theorem mnF_ne {σ : Nat → Nat} {i : Nat} (v : Nat) (h : ∀ x, 104 + 53 * (x / 10) + x % 10 ≠ i) : mnF (su σ i v) = mnF σ := funext fun x => su_ne σ v (h x)
theorem rvn_ne {σ : Nat → Nat} {i : Nat} (v : Nat) (h : ∀ x, 114 + 53 * x ≠ i) : rvn (su σ i v) = rvn σ := funext fun x => su_ne σ v (h x)
theorem pbn_ne {σ : Nat → Nat} {i : Nat} (v : Nat) (h : ∀ x, 115 + 53 * x ≠ i) : pbn (su σ i v) = pbn σ := funext fun x => su_ne σ v (h x)
theorem pbF_ne {σ : Nat → Nat} {i : Nat} (v : Nat) (h : ∀ x, 115 + 53 * x ≠ i) : pbF (su σ i v) = pbF σ := by
  funext x
  unfold pbF
  rw [pbn_ne v h]
theorem scn_ne {σ : Nat → Nat} {i : Nat} (v : Nat) (h : ∀ x, 116 + 53 * x ≠ i) : scn (su σ i v) = scn σ := funext fun x => su_ne σ v (h x)
theorem agF_ne {σ : Nat → Nat} {i : Nat} (v : Nat) (h : ∀ x, x < 60 → 4 + x ≠ i) : agF (su σ i v) = agF σ := by
  funext x
  unfold agF
  by_cases q : x < 60
  · rw [if_pos q, if_pos q]
    exact su_ne σ v (h x q)
  · rw [if_neg q, if_neg q]
theorem sgF_su (σ : Nat → Nat) (j v : Nat) : su (sgF σ) j v = sgF (su σ (64 + 53 * (j / 40) + j % 40) v) := by
  funext i
  unfold su sgF
  dsimp only
  by_cases q : i = j
  · subst q; simp
  · rw [if_neg q, if_neg (by omega)]
theorem mnF_su (σ : Nat → Nat) (j v : Nat) : su (mnF σ) j v = mnF (su σ (104 + 53 * (j / 10) + j % 10) v) := by
  funext i
  unfold su mnF
  dsimp only
  by_cases q : i = j
  · subst q; simp
  · rw [if_neg q, if_neg (by omega)]
theorem rvn_su (σ : Nat → Nat) (j v : Nat) : su (rvn σ) j v = rvn (su σ (114 + 53 * j) v) := by
  funext i
  unfold su rvn
  dsimp only
  by_cases q : i = j
  · subst q; simp
  · rw [if_neg q, if_neg (by omega)]
theorem scn_su (σ : Nat → Nat) (j v : Nat) : su (scn σ) j v = scn (su σ (116 + 53 * j) v) := by
  funext i
  unfold su scn
  dsimp only
  by_cases q : i = j
  · subst q; simp
  · rw [if_neg q, if_neg (by omega)]
theorem agF_su (σ : Nat → Nat) {j : Nat} (hj : j < 60) (v : Nat) : su (agF σ) j v = agF (su σ (4 + j) v) := by
  funext i
  unfold su agF agn
  dsimp only
  by_cases q : i = j
  · subst q; rw [if_pos rfl, if_pos hj, if_pos rfl]
  · rw [if_neg q]
    by_cases z : i < 60
    · rw [if_pos z, if_pos z, if_neg (by omega)]
    · rw [if_neg z, if_neg z]
theorem pbF_su (σ : Nat → Nat) (j v : Nat) : upd (pbF σ) j (nI v) = pbF (su σ (115 + 53 * j) (v + 1)) := by
  funext i
  unfold upd pbF pbn su
  by_cases q : i = j
  · subst q; simp
  · rw [if_neg q, if_neg (show ¬ 115 + 53 * i = 115 + 53 * j by omega)]
section WA
variable (G : zG) (a : Nat → Nat) (σ : Nat → Nat)
theorem wA_sg0 {k y : Nat} (hy : y < 40) (v : Nat) : wA G a (su σ (64 + 53 * k + y) v) = [(a 0, .inr (0, [.ref (a 1), .ref (a 2), .ref (a 3), .ref (a 4), .ref (a 5), .ref (a 6), .int (nI (σ 0)), .int (nI (σ 1)), .int (nI (σ 2)), .int (nI (σ 3))])),
    (a 1, .inl (G.2.1, 1440, .inl (upd (fun i => nI (sgF σ i)) (k * 40 + y) (nI v)))), (a 2, .inl (G.2.1, 360, .inl (fun i => nI (mnF σ i)))), (a 3, .inl (G.2.1, 36, .inl (fun k => nI (rvn σ k)))),
    (a 4, .inl (G.2.1, 36, .inl (fun k => pbF σ k))), (a 5, .inl (G.2.1, 36, .inl (fun k => nI (scn σ k)))), (a 6, .inl (G.2.1, 60, .inl (fun e => nI (agF σ e))))] := by
  rw [upd_nI, sgF_su, show 64 + 53 * ((k * 40 + y) / 40) + (k * 40 + y) % 40 = 64 + 53 * k + y by omega]
  unfold wA
  rw [mnF_ne v (fun x => by omega), rvn_ne v (fun x => by omega), pbF_ne v (fun x => by omega), scn_ne v (fun x => by omega), agF_ne v (fun x h => by omega), su_ne σ v (show 0 ≠ _ by omega), su_ne σ v (show 1 ≠ _ by omega), su_ne σ v (show 2 ≠ _ by omega), su_ne σ v (show 3 ≠ _ by omega)]
theorem wA_sg {k d p : Nat} (hd : d < 4) (hp : p < 10) (v : Nat) : wA G a (su σ (64 + 53 * k + (10 * d + p)) v) = [(a 0, .inr (0, [.ref (a 1), .ref (a 2), .ref (a 3), .ref (a 4), .ref (a 5), .ref (a 6), .int (nI (σ 0)), .int (nI (σ 1)), .int (nI (σ 2)), .int (nI (σ 3))])),
    (a 1, .inl (G.2.1, 1440, .inl (upd (fun i => nI (sgF σ i)) ((k * 4 + d) * 10 + p) (nI v)))), (a 2, .inl (G.2.1, 360, .inl (fun i => nI (mnF σ i)))), (a 3, .inl (G.2.1, 36, .inl (fun k => nI (rvn σ k)))),
    (a 4, .inl (G.2.1, 36, .inl (fun k => pbF σ k))), (a 5, .inl (G.2.1, 36, .inl (fun k => nI (scn σ k)))), (a 6, .inl (G.2.1, 60, .inl (fun e => nI (agF σ e))))] := by
  rw [wA_sg0 G a σ (show 10 * d + p < 40 by omega), show k * 40 + (10 * d + p) = (k * 4 + d) * 10 + p by omega]
theorem wA_mn {k g : Nat} (hg : g < 10) (v : Nat) : wA G a (su σ (104 + 53 * k + g) v) = [(a 0, .inr (0, [.ref (a 1), .ref (a 2), .ref (a 3), .ref (a 4), .ref (a 5), .ref (a 6), .int (nI (σ 0)), .int (nI (σ 1)), .int (nI (σ 2)), .int (nI (σ 3))])),
    (a 1, .inl (G.2.1, 1440, .inl (fun i => nI (sgF σ i)))), (a 2, .inl (G.2.1, 360, .inl (upd (fun i => nI (mnF σ i)) (k * 10 + g) (nI v)))), (a 3, .inl (G.2.1, 36, .inl (fun k => nI (rvn σ k)))),
    (a 4, .inl (G.2.1, 36, .inl (fun k => pbF σ k))), (a 5, .inl (G.2.1, 36, .inl (fun k => nI (scn σ k)))), (a 6, .inl (G.2.1, 60, .inl (fun e => nI (agF σ e))))] := by
  rw [upd_nI, mnF_su, show 104 + 53 * ((k * 10 + g) / 10) + (k * 10 + g) % 10 = 104 + 53 * k + g by omega]
  unfold wA
  rw [sgF_ne v (fun x => by omega), rvn_ne v (fun x => by omega), pbF_ne v (fun x => by omega), scn_ne v (fun x => by omega), agF_ne v (fun x h => by omega), su_ne σ v (show 0 ≠ _ by omega), su_ne σ v (show 1 ≠ _ by omega), su_ne σ v (show 2 ≠ _ by omega), su_ne σ v (show 3 ≠ _ by omega)]
theorem wA_rv (k v : Nat) : wA G a (su σ (114 + 53 * k) v) = [(a 0, .inr (0, [.ref (a 1), .ref (a 2), .ref (a 3), .ref (a 4), .ref (a 5), .ref (a 6), .int (nI (σ 0)), .int (nI (σ 1)), .int (nI (σ 2)), .int (nI (σ 3))])),
    (a 1, .inl (G.2.1, 1440, .inl (fun i => nI (sgF σ i)))), (a 2, .inl (G.2.1, 360, .inl (fun i => nI (mnF σ i)))), (a 3, .inl (G.2.1, 36, .inl (upd (fun k => nI (rvn σ k)) k (nI v)))),
    (a 4, .inl (G.2.1, 36, .inl (fun k => pbF σ k))), (a 5, .inl (G.2.1, 36, .inl (fun k => nI (scn σ k)))), (a 6, .inl (G.2.1, 60, .inl (fun e => nI (agF σ e))))] := by
  rw [upd_nI, rvn_su]
  unfold wA
  rw [sgF_ne v (fun x => by omega), mnF_ne v (fun x => by omega), pbF_ne v (fun x => by omega), scn_ne v (fun x => by omega), agF_ne v (fun x h => by omega), su_ne σ v (show 0 ≠ _ by omega), su_ne σ v (show 1 ≠ _ by omega), su_ne σ v (show 2 ≠ _ by omega), su_ne σ v (show 3 ≠ _ by omega)]
theorem wA_pb (k v : Nat) : wA G a (su σ (115 + 53 * k) (v + 1)) = [(a 0, .inr (0, [.ref (a 1), .ref (a 2), .ref (a 3), .ref (a 4), .ref (a 5), .ref (a 6), .int (nI (σ 0)), .int (nI (σ 1)), .int (nI (σ 2)), .int (nI (σ 3))])),
    (a 1, .inl (G.2.1, 1440, .inl (fun i => nI (sgF σ i)))), (a 2, .inl (G.2.1, 360, .inl (fun i => nI (mnF σ i)))), (a 3, .inl (G.2.1, 36, .inl (fun k => nI (rvn σ k)))),
    (a 4, .inl (G.2.1, 36, .inl (upd (fun k => pbF σ k) k (nI v)))), (a 5, .inl (G.2.1, 36, .inl (fun k => nI (scn σ k)))), (a 6, .inl (G.2.1, 60, .inl (fun e => nI (agF σ e))))] := by
  rw [show (fun k => pbF σ k) = pbF σ from rfl, pbF_su]
  unfold wA
  rw [sgF_ne (v + 1) (fun x => by omega), mnF_ne (v + 1) (fun x => by omega), rvn_ne (v + 1) (fun x => by omega), scn_ne (v + 1) (fun x => by omega), agF_ne (v + 1) (fun x h => by omega), su_ne σ (v + 1) (show 0 ≠ _ by omega), su_ne σ (v + 1) (show 1 ≠ _ by omega), su_ne σ (v + 1) (show 2 ≠ _ by omega), su_ne σ (v + 1) (show 3 ≠ _ by omega)]
theorem wA_sc (k v : Nat) : wA G a (su σ (116 + 53 * k) v) = [(a 0, .inr (0, [.ref (a 1), .ref (a 2), .ref (a 3), .ref (a 4), .ref (a 5), .ref (a 6), .int (nI (σ 0)), .int (nI (σ 1)), .int (nI (σ 2)), .int (nI (σ 3))])),
    (a 1, .inl (G.2.1, 1440, .inl (fun i => nI (sgF σ i)))), (a 2, .inl (G.2.1, 360, .inl (fun i => nI (mnF σ i)))), (a 3, .inl (G.2.1, 36, .inl (fun k => nI (rvn σ k)))),
    (a 4, .inl (G.2.1, 36, .inl (fun k => pbF σ k))), (a 5, .inl (G.2.1, 36, .inl (upd (fun k => nI (scn σ k)) k (nI v)))), (a 6, .inl (G.2.1, 60, .inl (fun e => nI (agF σ e))))] := by
  rw [upd_nI, scn_su]
  unfold wA
  rw [sgF_ne v (fun x => by omega), mnF_ne v (fun x => by omega), rvn_ne v (fun x => by omega), pbF_ne v (fun x => by omega), agF_ne v (fun x h => by omega), su_ne σ v (show 0 ≠ _ by omega), su_ne σ v (show 1 ≠ _ by omega), su_ne σ v (show 2 ≠ _ by omega), su_ne σ v (show 3 ≠ _ by omega)]
theorem wA_ag {e : Nat} (he : e < 60) (v : Nat) : wA G a (su σ (4 + e) v) = [(a 0, .inr (0, [.ref (a 1), .ref (a 2), .ref (a 3), .ref (a 4), .ref (a 5), .ref (a 6), .int (nI (σ 0)), .int (nI (σ 1)), .int (nI (σ 2)), .int (nI (σ 3))])),
    (a 1, .inl (G.2.1, 1440, .inl (fun i => nI (sgF σ i)))), (a 2, .inl (G.2.1, 360, .inl (fun i => nI (mnF σ i)))), (a 3, .inl (G.2.1, 36, .inl (fun k => nI (rvn σ k)))),
    (a 4, .inl (G.2.1, 36, .inl (fun k => pbF σ k))), (a 5, .inl (G.2.1, 36, .inl (fun k => nI (scn σ k)))), (a 6, .inl (G.2.1, 60, .inl (upd (fun e => nI (agF σ e)) e (nI v))))] := by
  rw [upd_nI, agF_su σ he]
  unfold wA
  rw [sgF_ne v (fun x => by omega), mnF_ne v (fun x => by omega), rvn_ne v (fun x => by omega), pbF_ne v (fun x => by omega), scn_ne v (fun x => by omega), su_ne σ v (show 0 ≠ _ by omega), su_ne σ v (show 1 ≠ _ by omega), su_ne σ v (show 2 ≠ _ by omega), su_ne σ v (show 3 ≠ _ by omega)]
theorem wA_23 {i : Nat} (hi : i < 4) (v : Nat) : wA G a (su σ i v) = [(a 0, .inr (0, [.ref (a 1), .ref (a 2), .ref (a 3), .ref (a 4), .ref (a 5), .ref (a 6), .int (nI (su σ i v 0)), .int (nI (su σ i v 1)), .int (nI (su σ i v 2)), .int (nI (su σ i v 3))])),
    (a 1, .inl (G.2.1, 1440, .inl (fun i => nI (sgF σ i)))), (a 2, .inl (G.2.1, 360, .inl (fun i => nI (mnF σ i)))), (a 3, .inl (G.2.1, 36, .inl (fun k => nI (rvn σ k)))),
    (a 4, .inl (G.2.1, 36, .inl (fun k => pbF σ k))), (a 5, .inl (G.2.1, 36, .inl (fun k => nI (scn σ k)))), (a 6, .inl (G.2.1, 60, .inl (fun e => nI (agF σ e))))] := by
  unfold wA
  rw [sgF_ne v (fun x => by omega), mnF_ne v (fun x => by omega), rvn_ne v (fun x => by omega), pbF_ne v (fun x => by omega), scn_ne v (fun x => by omega), agF_ne v (fun x h => by omega)]
end WA
