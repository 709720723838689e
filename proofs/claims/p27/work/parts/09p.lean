/-! states stay good under one change -/
section OKS
variable {N : Nat} {σ : Nat → Nat}
theorem Ok.su_ag (h : Ok N σ) {e v : Nat} (he : e < 60) (hv : v ≤ 1) : Ok N (su σ (4 + e) v) := by
  obtain ⟨h0, h1, h2, h3, h4, h5, h6, h7, h8, h9, h10⟩ := h
  refine ⟨by rw [su_ne _ _ (by omega)]; exact h0, by rw [su_ne _ _ (by omega)]; exact h1, by rw [su_ne _ _ (by omega)]; exact h2, by rw [su_ne _ _ (by omega)]; exact h3, fun x hx => ?_, fun k j hk hj => by rw [su_ne _ _ (by omega)]; exact h5 k j hk hj, fun k j hk hj => by rw [su_ne _ _ (by omega)]; exact h6 k j hk hj, fun k hk => by rw [su_ne _ _ (by omega)]; exact h7 k hk, fun k hk => by rw [su_ne _ _ (by omega)]; exact h8 k hk, fun k hk => by rw [su_ne _ _ (by omega)]; exact h9 k hk, h10⟩
  unfold su
  split
  · exact hv
  · exact h4 x hx
theorem Ok.su_sg (h : Ok N σ) {k y v : Nat} (hy : y < 40) (hv : v ≤ 10) : Ok N (su σ (64 + 53 * k + y) v) := by
  obtain ⟨h0, h1, h2, h3, h4, h5, h6, h7, h8, h9, h10⟩ := h
  refine ⟨by rw [su_ne _ _ (by omega)]; exact h0, by rw [su_ne _ _ (by omega)]; exact h1, by rw [su_ne _ _ (by omega)]; exact h2, by rw [su_ne _ _ (by omega)]; exact h3, fun x hx => by rw [su_ne _ _ (by omega)]; exact h4 x hx, fun k' j hk hj => ?_, fun k' j hk hj => by rw [su_ne _ _ (by omega)]; exact h6 k' j hk hj, fun k' hk => by rw [su_ne _ _ (by omega)]; exact h7 k' hk, fun k' hk => by rw [su_ne _ _ (by omega)]; exact h8 k' hk, fun k' hk => by rw [su_ne _ _ (by omega)]; exact h9 k' hk, h10⟩
  unfold su
  split
  · exact hv
  · exact h5 k' j hk hj
theorem Ok.su_mn (h : Ok N σ) {k y v : Nat} (hy : y < 10) (hv : v ≤ 9) : Ok N (su σ (104 + 53 * k + y) v) := by
  obtain ⟨h0, h1, h2, h3, h4, h5, h6, h7, h8, h9, h10⟩ := h
  refine ⟨by rw [su_ne _ _ (by omega)]; exact h0, by rw [su_ne _ _ (by omega)]; exact h1, by rw [su_ne _ _ (by omega)]; exact h2, by rw [su_ne _ _ (by omega)]; exact h3, fun x hx => by rw [su_ne _ _ (by omega)]; exact h4 x hx, fun k' j hk hj => by rw [su_ne _ _ (by omega)]; exact h5 k' j hk hj, fun k' j hk hj => ?_, fun k' hk => by rw [su_ne _ _ (by omega)]; exact h7 k' hk, fun k' hk => by rw [su_ne _ _ (by omega)]; exact h8 k' hk, fun k' hk => by rw [su_ne _ _ (by omega)]; exact h9 k' hk, h10⟩
  unfold su
  split
  · exact hv
  · exact h6 k' j hk hj
theorem Ok.su_rv (h : Ok N σ) {k v : Nat} (hv : v < N) : Ok N (su σ (114 + 53 * k) v) := by
  obtain ⟨h0, h1, h2, h3, h4, h5, h6, h7, h8, h9, h10⟩ := h
  refine ⟨by rw [su_ne _ _ (by omega)]; exact h0, by rw [su_ne _ _ (by omega)]; exact h1, by rw [su_ne _ _ (by omega)]; exact h2, by rw [su_ne _ _ (by omega)]; exact h3, fun x hx => by rw [su_ne _ _ (by omega)]; exact h4 x hx, fun k' j hk hj => by rw [su_ne _ _ (by omega)]; exact h5 k' j hk hj, fun k' j hk hj => by rw [su_ne _ _ (by omega)]; exact h6 k' j hk hj, fun k' hk => ?_, fun k' hk => by rw [su_ne _ _ (by omega)]; exact h8 k' hk, fun k' hk => by rw [su_ne _ _ (by omega)]; exact h9 k' hk, h10⟩
  unfold su
  split
  · exact hv
  · exact h7 k' hk
theorem Ok.su_pb (h : Ok N σ) {k v : Nat} (hv : v ≤ N) : Ok N (su σ (115 + 53 * k) v) := by
  obtain ⟨h0, h1, h2, h3, h4, h5, h6, h7, h8, h9, h10⟩ := h
  refine ⟨by rw [su_ne _ _ (by omega)]; exact h0, by rw [su_ne _ _ (by omega)]; exact h1, by rw [su_ne _ _ (by omega)]; exact h2, by rw [su_ne _ _ (by omega)]; exact h3, fun x hx => by rw [su_ne _ _ (by omega)]; exact h4 x hx, fun k' j hk hj => by rw [su_ne _ _ (by omega)]; exact h5 k' j hk hj, fun k' j hk hj => by rw [su_ne _ _ (by omega)]; exact h6 k' j hk hj, fun k' hk => by rw [su_ne _ _ (by omega)]; exact h7 k' hk, fun k' hk => ?_, fun k' hk => by rw [su_ne _ _ (by omega)]; exact h9 k' hk, h10⟩
  unfold su
  split
  · exact hv
  · exact h8 k' hk
theorem Ok.su_sc (h : Ok N σ) {k v : Nat} (hv : 1 ≤ v ∧ v ≤ 1000000) : Ok N (su σ (116 + 53 * k) v) := by
  obtain ⟨h0, h1, h2, h3, h4, h5, h6, h7, h8, h9, h10⟩ := h
  refine ⟨by rw [su_ne _ _ (by omega)]; exact h0, by rw [su_ne _ _ (by omega)]; exact h1, by rw [su_ne _ _ (by omega)]; exact h2, by rw [su_ne _ _ (by omega)]; exact h3, fun x hx => by rw [su_ne _ _ (by omega)]; exact h4 x hx, fun k' j hk hj => by rw [su_ne _ _ (by omega)]; exact h5 k' j hk hj, fun k' j hk hj => by rw [su_ne _ _ (by omega)]; exact h6 k' j hk hj, fun k' hk => by rw [su_ne _ _ (by omega)]; exact h7 k' hk, fun k' hk => by rw [su_ne _ _ (by omega)]; exact h8 k' hk, fun k' hk => ?_, h10⟩
  unfold su
  split
  · exact hv
  · exact h9 k' hk
theorem Ok.su_gd (h : Ok N σ) {v : Nat} (hv : v ≤ 1) : Ok N (su σ 2 v) := by
  obtain ⟨h0, h1, h2, h3, h4, h5, h6, h7, h8, h9, h10⟩ := h
  exact ⟨by rw [su_ne _ _ (by omega)]; exact h0, by rw [su_ne _ _ (by omega)]; exact h1, by rw [su_at]; exact hv, by rw [su_ne _ _ (by omega)]; exact h3, fun x hx => by rw [su_ne _ _ (by omega)]; exact h4 x hx, fun k' j hk hj => by rw [su_ne _ _ (by omega)]; exact h5 k' j hk hj, fun k' j hk hj => by rw [su_ne _ _ (by omega)]; exact h6 k' j hk hj, fun k' hk => by rw [su_ne _ _ (by omega)]; exact h7 k' hk, fun k' hk => by rw [su_ne _ _ (by omega)]; exact h8 k' hk, fun k' hk => by rw [su_ne _ _ (by omega)]; exact h9 k' hk, h10⟩
theorem Ok.su_tl (h : Ok N σ) {v : Nat} (hv : v ≤ 1000) : Ok N (su σ 3 v) := by
  obtain ⟨h0, h1, h2, h3, h4, h5, h6, h7, h8, h9, h10⟩ := h
  exact ⟨by rw [su_ne _ _ (by omega)]; exact h0, by rw [su_ne _ _ (by omega)]; exact h1, by rw [su_ne _ _ (by omega)]; exact h2, by rw [su_at]; exact hv, fun x hx => by rw [su_ne _ _ (by omega)]; exact h4 x hx, fun k' j hk hj => by rw [su_ne _ _ (by omega)]; exact h5 k' j hk hj, fun k' j hk hj => by rw [su_ne _ _ (by omega)]; exact h6 k' j hk hj, fun k' hk => by rw [su_ne _ _ (by omega)]; exact h7 k' hk, fun k' hk => by rw [su_ne _ _ (by omega)]; exact h8 k' hk, fun k' hk => by rw [su_ne _ _ (by omega)]; exact h9 k' hk, h10⟩
/-- the grid's numbers look at the places 0 and 1 alone -/
theorem nS_su {i v : Nat} (h : 2 ≤ i) : nS (su σ i v) = nS σ := by unfold nS; rw [su_ne _ _ (by omega), su_ne _ _ (by omega)]
theorem rE_su {i v : Nat} (h : 2 ≤ i) : rE (su σ i v) = rE σ := by unfold rE; rw [su_ne _ _ (by omega), su_ne _ _ (by omega)]
theorem nE_su {i v : Nat} (h : 2 ≤ i) : nE (su σ i v) = nE σ := by unfold nE; rw [su_ne _ _ (by omega), su_ne _ _ (by omega)]
theorem fS_su {i v : Nat} (h : 2 ≤ i) (e : Nat) : fS (su σ i v) e = fS σ e := by unfold fS; rw [rE_su h, su_ne _ _ (by omega)]
theorem sS_su {i v : Nat} (h : 2 ≤ i) (e : Nat) : sS (su σ i v) e = sS σ e := by unfold sS; rw [fS_su h, rE_su h, su_ne _ _ (by omega)]
theorem fD_su {i v : Nat} (h : 2 ≤ i) (e : Nat) : fD (su σ i v) e = fD σ e := by unfold fD; rw [rE_su h]
theorem sD_su {i v : Nat} (h : 2 ≤ i) (e : Nat) : sD (su σ i v) e = sD σ e := by unfold sD; rw [rE_su h]
theorem eO_su {i v : Nat} (h : 2 ≤ i) (k d : Nat) : eO (su σ i v) k d = eO σ k d := by unfold eO; rw [rE_su h, su_ne _ _ (show 0 ≠ i by omega), su_ne _ _ (show 1 ≠ i by omega)]
end OKS
/-! agreements that are broken are dropped, side by side -/
def drS (τ : Nat → Nat) (k i : Nat) : Nat → Nat := if agF τ (eO τ k i) = 1 ∧ 0 < qrl τ (eO τ k i) then su τ (4 + eO τ k i) 0 else τ
def drp (σ : Nat → Nat) (k : Nat) : Nat → Nat → Nat
  | 0 => σ
  | i + 1 => drS (drp σ k i) k i
/-! settling: from the side d1 of the sheet k1 to the side d2 of the sheet k2 -/
def stS (τ : Nat → Nat) (k1 d1 k2 d2 p : Nat) : Nat → Nat :=
  if mns τ k1 d1 p = mns τ k2 d2 p then τ else su τ (64 + 53 * k2 + (10 * d2 + p)) (if mns τ k1 d1 p = 10 then 10 else lws τ k2 (mns τ k1 d1 p))
def stl (σ : Nat → Nat) (k1 d1 k2 d2 : Nat) : Nat → Nat → Nat
  | 0 => σ
  | p + 1 => stS (stl σ k1 d1 k2 d2 p) k1 d1 k2 d2 p
def stc (σ : Nat → Nat) (k1 d1 k2 d2 p : Nat) : Nat := sm (fun q => if mns (stl σ k1 d1 k2 d2 q) k1 d1 q = mns (stl σ k1 d1 k2 d2 q) k2 d2 q then 0 else 1) p
def sBad (τ : Nat → Nat) (k1 d1 k2 d2 q : Nat) : Bool := decide (mns τ k1 d1 q ≠ mns τ k2 d2 q ∧ mns τ k1 d1 q ≠ 10 ∧ lws τ k2 (mns τ k1 d1 q) = 10)
def sbd (σ : Nat → Nat) (k1 d1 k2 d2 : Nat) : Nat := fst1 (fun q => sBad (stl σ k1 d1 k2 d2 q) k1 d1 k2 d2 q) 10
def stE (σ : Nat → Nat) (k1 d1 k2 d2 : Nat) : Nat → Nat :=
  if 0 < stc σ k1 d1 k2 d2 10 then su (stl σ k1 d1 k2 d2 10) (114 + 53 * k2) (rvn (stl σ k1 d1 k2 d2 10) k2 + 1) else stl σ k1 d1 k2 d2 10
/-! a fresh grid -/
def bgn (c r g t : Nat) : Nat → Nat := fun i =>
  if i = 0 then c else if i = 1 then r else if i = 2 then g else if i = 3 then t else if i < 64 then 0
  else if (i - 64) % 53 < 40 then 10 else if (i - 64) % 53 < 50 then (i - 64) % 53 - 40 else if (i - 64) % 53 < 52 then 0 else 1000
def wA0 (G : zG) (a : Nat → Nat) (c r g t : Nat) (f1 f2 f3 f4 f5 f6 : Nat → Int32) : va_W :=
  [(a 0, .inr (0, [.ref (a 1), .ref (a 2), .ref (a 3), .ref (a 4), .ref (a 5), .ref (a 6), .int (nI c), .int (nI r), .int (nI g), .int (nI t)])),
   (a 1, .inl (G.2.1, 1440, .inl f1)), (a 2, .inl (G.2.1, 360, .inl f2)), (a 3, .inl (G.2.1, 36, .inl f3)), (a 4, .inl (G.2.1, 36, .inl f4)), (a 5, .inl (G.2.1, 36, .inl f5)), (a 6, .inl (G.2.1, 60, .inl f6))]
theorem zP_cons {D : va_G} {cl : List vw_C} {x : Nat × va_E} {w : va_W} {H : Heap} : va_P D cl (x :: w) H ↔ va_at D cl x H ∧ va_P D cl w H :=
  ⟨fun h => ⟨h 0 x rfl, fun k q hk => h (k + 1) q hk⟩, fun h k q hk => by
    cases k with
    | zero => cases hk; exact h.1
    | succ k => exact h.2 k q hk⟩
theorem zat_ext {D : va_G} {cl : List vw_C} {q : Nat} {c : ClassId} {n : Nat} {f g : Nat → Int32} {H : Heap} (h : ∀ j, j < n → f j = g j) (hP : va_at D cl (q, .inl (c, n, .inl f)) H) : va_at D cl (q, .inl (c, n, .inl g)) H :=
  (zP_cons.mp (zcell_ext h (zP_cons.mpr ⟨hP, fun k q hk => by simp at hk⟩))).1
theorem wA0_ext {G : zG} {a : Nat → Nat} {c r g t : Nat} {f1 f2 f3 f4 f5 f6 g1 g2 g3 g4 g5 g6 : Nat → Int32} {H : Heap} (h1 : ∀ j, j < 1440 → f1 j = g1 j) (h2 : ∀ j, j < 360 → f2 j = g2 j) (h3 : ∀ j, j < 36 → f3 j = g3 j) (h4 : ∀ j, j < 36 → f4 j = g4 j) (h5 : ∀ j, j < 36 → f5 j = g5 j) (h6 : ∀ j, j < 60 → f6 j = g6 j)
    (hP : va_P G.1 vwCl (wA0 G a c r g t f1 f2 f3 f4 f5 f6) H) : va_P G.1 vwCl (wA0 G a c r g t g1 g2 g3 g4 g5 g6) H := by
  unfold wA0 at hP ⊢
  obtain ⟨p0, hP⟩ := zP_cons.mp hP
  obtain ⟨p1, hP⟩ := zP_cons.mp hP
  obtain ⟨p2, hP⟩ := zP_cons.mp hP
  obtain ⟨p3, hP⟩ := zP_cons.mp hP
  obtain ⟨p4, hP⟩ := zP_cons.mp hP
  obtain ⟨p5, hP⟩ := zP_cons.mp hP
  obtain ⟨p6, hP⟩ := zP_cons.mp hP
  exact zP_cons.mpr ⟨p0, zP_cons.mpr ⟨zat_ext h1 p1, zP_cons.mpr ⟨zat_ext h2 p2, zP_cons.mpr ⟨zat_ext h3 p3, zP_cons.mpr ⟨zat_ext h4 p4, zP_cons.mpr ⟨zat_ext h5 p5, zP_cons.mpr ⟨zat_ext h6 p6, hP⟩⟩⟩⟩⟩⟩⟩
theorem wA_bgn {G : zG} {a : Nat → Nat} {c r g t : Nat} {f2 : Nat → Int32} {H : Heap} (h2 : ∀ j, j < 360 → f2 j = nI (j % 10)) (hP : va_P G.1 vwCl (wA0 G a c r g t (fun _ => nI 10) f2 (fun _ => nI 0) (fun _ => (-1)) (fun _ => nI 1000) (fun _ => nI 0)) H) : va_P G.1 vwCl (wA G a (bgn c r g t)) H := by
  refine wA0_ext (fun j hj => ?_) (fun j hj => ?_) (fun j hj => ?_) (fun j hj => ?_) (fun j hj => ?_) (fun j hj => ?_) hP
  · show nI 10 = nI (sgF (bgn c r g t) j)
    unfold sgF bgn
    rw [if_neg (by omega), if_neg (by omega), if_neg (by omega), if_neg (by omega), if_neg (by omega), if_pos (by omega)]
  · rw [h2 j hj]
    show nI (j % 10) = nI (mnF (bgn c r g t) j)
    unfold mnF bgn
    rw [if_neg (by omega), if_neg (by omega), if_neg (by omega), if_neg (by omega), if_neg (by omega), if_neg (by omega), if_pos (by omega)]
    congr 1
    omega
  · show nI 0 = nI (rvn (bgn c r g t) j)
    unfold rvn bgn
    rw [if_neg (by omega), if_neg (by omega), if_neg (by omega), if_neg (by omega), if_neg (by omega), if_neg (by omega), if_neg (by omega), if_pos (by omega)]
  · have : pbn (bgn c r g t) j = 0 := by
      unfold pbn bgn
      rw [if_neg (by omega), if_neg (by omega), if_neg (by omega), if_neg (by omega), if_neg (by omega), if_neg (by omega), if_neg (by omega), if_pos (by omega)]
    show (-1 : Int32) = pbF (bgn c r g t) j
    unfold pbF
    rw [if_pos this]
  · show nI 1000 = nI (scn (bgn c r g t) j)
    unfold scn bgn
    rw [if_neg (by omega), if_neg (by omega), if_neg (by omega), if_neg (by omega), if_neg (by omega), if_neg (by omega), if_neg (by omega), if_neg (by omega)]
  · show nI 0 = nI (agF (bgn c r g t) j)
    unfold agF agn bgn
    rw [if_pos hj, if_neg (by omega), if_neg (by omega), if_neg (by omega), if_neg (by omega), if_pos (by omega)]
theorem z_10 : nI 10 = (-4 : Int32) ↔ False := ⟨fun q => absurd q (by decide), False.elim⟩
