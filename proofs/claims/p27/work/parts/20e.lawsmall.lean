/-! small facts of what the law compares -/
theorem qb_le (σ : Nat → Nat) (e p : Nat) : qb σ e p ≤ p := sm_01 p
theorem qb_s (σ : Nat → Nat) (e p : Nat) : qb σ e (p + 1) = qb σ e p + (if rsn σ e p = 0 then 0 else 1) := rfl
theorem qb_mono (σ : Nat → Nat) (e : Nat) : ∀ n j, j ≤ n → qb σ e j ≤ qb σ e n := by
  intro n
  induction n with
  | zero => intro j hj; obtain rfl : j = 0 := by omega
            exact Nat.le_refl _
  | succ n ih =>
    intro j hj
    by_cases q : j = n + 1
    · rw [q]
      exact Nat.le_refl _
    · have := ih j (by omega)
      rw [qb_s]
      omega
theorem pq_at {σ : Nat → Nat} {e p : Nat} (hp : p < 10) (h : 0 < rsn σ e p) : pq σ e (qb σ e p) = p := by
  refine fst1_at hp (fun j hj => decide_eq_false fun z => ?_) (decide_eq_true ⟨by omega, rfl⟩)
  have h1 := qb_mono σ e p (j + 1) (by omega)
  rw [qb_s, if_neg z.1] at h1
  have := z.2
  omega
theorem pq_no (σ : Nat → Nat) (e : Nat) : pq σ e (qrl σ e) = 10 := by
  refine fst1_no fun j hj => decide_eq_false fun z => ?_
  have h1 := qb_mono σ e 10 (j + 1) (by omega)
  rw [qb_s, if_neg z.1] at h1
  have h2 : qb σ e 10 = qrl σ e := rfl
  have := z.2
  omega
theorem zc_lt {b n : Nat} (h : n < 2 ^ 31) : zc b n < 0 ↔ n = b := by
  unfold zc
  by_cases q : n = b
  · rw [if_pos q]
    exact ⟨fun _ => q, fun _ => by decide⟩
  · rw [if_neg q]
    exact ⟨fun z => absurd z (nI_pos h), fun z => absurd z q⟩
theorem zc4_lt {p : Nat} (h : p < 2 ^ 31) : zc4 p < 0 ↔ p = 0 := by
  unfold zc4
  by_cases q : p = 0
  · rw [if_pos q]
    exact ⟨fun _ => q, fun _ => by decide⟩
  · rw [if_neg q]
    exact ⟨fun z => absurd z (nI_pos (by omega)), fun z => absurd z q⟩
theorem zc4_eq {p r : Nat} (h : p < 2 ^ 31) (hr : r < 2 ^ 31) : zc4 p = nI r ↔ p = r + 1 := by
  unfold zc4
  by_cases q : p = 0
  · rw [if_pos q]
    exact ⟨fun z => absurd z.symm (z_m4 hr), fun z => by omega⟩
  · rw [if_neg q, nI_eq (by omega) hr]
    omega
theorem agn_i {a : Nat} (h : a ≤ 1) : (if a = 1 then nI 1 else nI 0) = nI a := by
  rcases (show a = 0 ∨ a = 1 by omega) with rfl | rfl <;> rfl
theorem agn_n {a : Nat} (h : a ≤ 1) : a = (if a = 1 then 1 else 0) := by
  rcases (show a = 0 ∨ a = 1 by omega) with rfl | rfl <;> rfl
theorem mns_10 {N : Nat} {σ : Nat → Nat} (hO : Ok N σ) {k d p : Nat} (hk : k < 36) (hd : d < 4) (hp : p < 10) : mns σ k d p = 10 ↔ sgn σ k d p = 10 := by
  have hs := hO.sg hk hd hp
  unfold mns
  by_cases q : sgn σ k d p = 10
  · rw [if_pos q]
    exact ⟨fun _ => q, fun _ => rfl⟩
  · rw [if_neg q]
    have := hO.mg hk (show sgn σ k d p < 10 by omega)
    exact ⟨fun z => by omega, fun z => absurd z q⟩
theorem sm_11 {P : Nat → Prop} {hd : ∀ i, Decidable (P i)} (n : Nat) : sm (fun i => if P i then 1 else 0) n ≤ n := by
  have := sm_le (f := fun i => if P i then 1 else 0) (b := 1) (fun i => by show (if P i then 1 else 0) ≤ 1; split <;> omega) n
  omega
theorem agF_le {N : Nat} {σ : Nat → Nat} (hO : Ok N σ) (e : Nat) : agF σ e ≤ 1 := by
  unfold agF
  by_cases q : e < 60
  · rw [if_pos q]
    exact hO.ag q
  · rw [if_neg q]
    omega
