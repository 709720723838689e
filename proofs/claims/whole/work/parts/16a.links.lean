/-! links of the two programs: the edges of a sheet -/
def gFS (c r e : Nat) : Nat := if e < (c - 1) * r then e + e / (c - 1) else e - (c - 1) * r
def gSS (c r e : Nat) : Nat := gFS c r e + (if e < (c - 1) * r then 1 else c)
def gFD (c r e : Nat) : Nat := if e < (c - 1) * r then 1 else 2
def gSD (c r e : Nat) : Nat := if e < (c - 1) * r then 3 else 0
theorem g_oe1 : ∀ c, c < 7 → ∀ r, r < 7 → ∀ e, e < (c - 1) * r + c * (r - 1) → 1 ≤ c → gEO c r (gFS c r e) (gFD c r e) = e := by decide +kernel
theorem g_oe2 : ∀ c, c < 7 → ∀ r, r < 7 → ∀ e, e < (c - 1) * r + c * (r - 1) → 1 ≤ c → gEO c r (gSS c r e) (gSD c r e) = e := by decide +kernel
theorem Ok.oe {N : Nat} {σ : Nat → Nat} (h : Ok N σ) {e : Nat} (he : e < nE σ) : eO σ (fS σ e) (fD σ e) = e ∧ eO σ (sS σ e) (sD σ e) = e := by
  have hc := h.c
  exact ⟨g_oe1 (σ 0) (by omega) (σ 1) (by omega) e he (by omega), g_oe2 (σ 0) (by omega) (σ 1) (by omega) e he (by omega)⟩
