/-! what both programs keep to between two calls: N is one more than the calls so far -/
def Iv (N : Nat) (σ : Nat → Nat) (T : Nat → Nat → Nat) (o n : Nat) (V : Nat → Nat → Nat) (x : Nat → Nat) (len : Nat) : Prop :=
  Ok N σ ∧ Cln σ ∧ o < 5 ∧ n ≤ 4 ∧ len ≤ 100 ∧ (∀ i, i < 100 → x i < 65536) ∧ ∀ i, i < n → T ((o + i) % 5) = V i ∧ Ok N (V i) ∧ Cln (V i)
section IVS
variable {N : Nat} {σ : Nat → Nat} {T : Nat → Nat → Nat} {o n : Nat} {V : Nat → Nat → Nat} {x : Nat → Nat} {len : Nat}
theorem Iv.keep (h : Iv N σ T o n V x len) (hN : N + 1 < 100000) : Iv (N + 1) σ T o n V x len := by
  obtain ⟨h1, h2, h3, h4, h5, h6, h7⟩ := h
  exact ⟨h1.up hN, h2, h3, h4, h5, h6, fun i hi => ⟨(h7 i hi).1, (h7 i hi).2.1.up hN, (h7 i hi).2.2⟩⟩
theorem Iv.hold (h : Iv N σ T o n V x len) (hN : N + 1 < 100000) (τ : Nat → Nat) : Iv (N + 1) σ (upT T ((o + n) % 5) τ) o n V x len := by
  obtain ⟨h1, h2, h3, h4, h5, h6, h7⟩ := h
  exact ⟨h1.up hN, h2, h3, h4, h5, h6, fun i hi => ⟨by rw [upT_ne T τ (by omega)]; exact (h7 i hi).1, (h7 i hi).2.1.up hN, (h7 i hi).2.2⟩⟩
theorem Iv.push (h : Iv N σ T o n V x len) (hN : N + 1 < 100000) {τ : Nat → Nat} (hT : Ok (N + 1) τ) (hC : Cln τ) : Iv (N + 1) τ (upT T ((o + n) % 5) σ) (nO o n) (nN n) (updv V n σ) x len := by
  obtain ⟨h1, h2, h3, h4, h5, h6, h7⟩ := h
  have h1 := h1.up hN
  by_cases q : n < 4
  · refine ⟨hT, hC, by unfold nO; rw [if_pos q]; exact h3, by unfold nN; rw [if_pos q]; omega, h5, h6, fun i hi => ?_⟩
    unfold nN at hi
    rw [if_pos q] at hi
    unfold nO
    rw [if_pos q, updv_lo q]
    show upT T ((o + n) % 5) σ ((o + i) % 5) = (if i = n then σ else V i) ∧ Ok (N + 1) (if i = n then σ else V i) ∧ Cln (if i = n then σ else V i)
    by_cases z : i = n
    · rw [if_pos z, z, upT_at]
      exact ⟨rfl, h1, h2⟩
    · rw [if_neg z, upT_ne T σ (by omega)]
      exact ⟨(h7 i (by omega)).1, (h7 i (by omega)).2.1.up hN, (h7 i (by omega)).2.2⟩
  · have e : n = 4 := by omega
    subst e
    refine ⟨hT, hC, by unfold nO; rw [if_neg q]; omega, by unfold nN; rw [if_neg q]; omega, h5, h6, fun i hi => ?_⟩
    unfold nN at hi
    rw [if_neg q] at hi
    unfold nO
    rw [if_neg q, updv_hi]
    show upT T ((o + 4) % 5) σ (((o + 1) % 5 + i) % 5) = (if i = 3 then σ else V (i + 1)) ∧ Ok (N + 1) (if i = 3 then σ else V (i + 1)) ∧ Cln (if i = 3 then σ else V (i + 1))
    by_cases z : i = 3
    · rw [if_pos z, z, show ((o + 1) % 5 + 3) % 5 = (o + 4) % 5 by omega, upT_at]
      exact ⟨rfl, h1, h2⟩
    · rw [if_neg z, upT_ne T σ (by omega), show ((o + 1) % 5 + i) % 5 = (o + (i + 1)) % 5 by omega]
      exact ⟨(h7 (i + 1) (by omega)).1, (h7 (i + 1) (by omega)).2.1.up hN, (h7 (i + 1) (by omega)).2.2⟩
theorem Iv.undo (h : Iv N σ T o n V x len) (hN : N + 1 < 100000) (h0 : 1 ≤ n) : Iv (N + 1) (V (n - 1)) T o (n - 1) V x len := by
  obtain ⟨h1, h2, h3, h4, h5, h6, h7⟩ := h
  have q := h7 (n - 1) (by omega)
  exact ⟨q.2.1.up hN, q.2.2, h3, by omega, h5, h6, fun i hi => ⟨(h7 i (by omega)).1, (h7 i (by omega)).2.1.up hN, (h7 i (by omega)).2.2⟩⟩
theorem Iv.text (h : Iv N σ T o n V x len) (hN : N + 1 < 100000) {y : Nat → Nat} {k : Nat} (hk : k ≤ 100) (hy : ∀ i, i < 100 → y i < 65536) : Iv (N + 1) σ T o n V y k := by
  obtain ⟨h1, h2, h3, h4, h5, h6, h7⟩ := h
  exact ⟨h1.up hN, h2, h3, h4, hk, hy, fun i hi => ⟨(h7 i hi).1, (h7 i hi).2.1.up hN, (h7 i hi).2.2⟩⟩
end IVS
theorem z_of3 {x : Int32} (h : 0 ≤ x ∧ x ≤ 3) : ∃ k, k < 4 ∧ x = nI k := by
  obtain ⟨k, hk, e⟩ := z_ofle (x := x) (m := 3) (by omega) ⟨by rw [nI_0]; exact h.1, by rw [show nI 3 = (3 : Int32) by decide +kernel]; exact h.2⟩
  exact ⟨k, by omega, e⟩
theorem z_of9 {x : Int32} (h : 0 ≤ x ∧ x ≤ 9) : ∃ k, k < 10 ∧ x = nI k := by
  obtain ⟨k, hk, e⟩ := z_ofle (x := x) (m := 9) (by omega) ⟨by rw [nI_0]; exact h.1, by rw [show nI 9 = (9 : Int32) by decide +kernel]; exact h.2⟩
  exact ⟨k, by omega, e⟩
theorem z_ofrg {x : Int32} {a m : Nat} (hm : m < 2 ^ 31) (ha : a ≤ m) (h : nI a ≤ x ∧ x ≤ nI m) : ∃ k, a ≤ k ∧ k ≤ m ∧ x = nI k := by
  obtain ⟨k, hk, e⟩ := z_ofle (x := x) (m := m) hm ⟨Int32.le_trans (nI_le (Nat.zero_le a) (by omega)) h.1, h.2⟩
  subst e
  exact ⟨k, (nI_leI (by omega) (by omega)).mp h.1, hk, rfl⟩
/-- the tables' words, as the start has them -/
theorem law_arr {s : State} {cA : ClassId} {kA : Class} {comp : ClassId} {ty : FieldType} (h2 : s.vm.classes[cA]? = some kA) (h3 : kA.kind = .array comp ty) : ArrOfT s cA ty := fun n z => ⟨fun k h => (by cases h), kA, h2, comp, h3⟩
set_option maxRecDepth 20000 in
theorem law_G {s : State} {args : Array Value} (hts : ∀ w ∈ lw_tbl, w.before args s = true) : ∃ G : zG, zK G s ∧ va_AO RX0 s := by
  obtain ⟨c0, i0, k0⟩ := u_known (C := RX0) (T := TX0) (N := 10) (n := 10) hts inX0 (hts (.instantiable RX0 10) (List.mem_of_getElem? (i := 68) (by decide +kernel)))
  obtain ⟨c1, i1, k1⟩ := u_known (C := RX1) (T := TX1) (N := 1) (n := 1) hts inX1 (hts (.instantiable RX1 1) (List.mem_of_getElem? (i := 132) (by decide +kernel)))
  obtain ⟨c2, i2, k2⟩ := u_known (C := RX2) (T := TX2) (N := 3) (n := 3) hts inX2 (hts (.instantiable RX2 3) (List.mem_of_getElem? (i := 113) (by decide +kernel)))
  obtain ⟨c3, i3, k3⟩ := u_known (C := RX3) (T := TX3) (N := 2) (n := 2) hts inX3 (hts (.instantiable RX3 2) (List.mem_of_getElem? (i := 142) (by decide +kernel)))
  obtain ⟨c4, i4, k4⟩ := u_known (C := RX4) (T := TX4) (N := 4) (n := 4) hts inX4 (hts (.instantiable RX4 4) (List.mem_of_getElem? (i := 60) (by decide +kernel)))
  obtain ⟨c5, i5, k5⟩ := u_known (C := RX5) (T := TX5) (N := 7) (n := 7) hts inX5 (hts (.instantiable RX5 7) (List.mem_of_getElem? (i := 625) (by decide +kernel)))
  obtain ⟨cI, kI, pI, a1, a2, a3⟩ := Cond.arrayClass_spec (hts (.arrayClass .int) (List.mem_of_getElem? (i := 111) (by decide +kernel)))
  obtain ⟨cC, kC, pC, b1, b2, b3⟩ := Cond.arrayClass_spec (hts (.arrayClass .char) (List.mem_of_getElem? (i := 154) (by decide +kernel)))
  have hO := hts (.arrayOver (.object RX0)) (List.mem_of_getElem? (i := 119) (by decide +kernel))
  obtain ⟨pO, cO, kO, d1, d2, d3, d4, d5⟩ := Cond.arrayOver_spec hO
  refine ⟨((fun k => if k = 0 then c0 else if k = 1 then c1 else if k = 2 then c2 else if k = 3 then c3 else if k = 4 then c4 else c5, fun k => if k = 0 then i0 else if k = 1 then i1 else if k = 2 then i2 else if k = 3 then i3 else if k = 4 then i4 else i5), cI, cC, cO), ⟨⟨?_, ?_⟩, ?_⟩, va_AO.of hO⟩
  · intro k q hq
    match k, hq with
    | 0, hq => cases hq; exact k0
    | 1, hq => cases hq; exact k1
    | 2, hq => cases hq; exact k2
    | 3, hq => cases hq; exact k3
    | 4, hq => cases hq; exact k4
    | 5, hq => cases hq; exact k5
    | k + 6, hq => simp [vwCl] at hq
  · intro k q hq
    match k, hq with
    | 0, hq => cases hq; exact ⟨law_arr a2 a3, a1⟩
    | 1, hq => cases hq; exact ⟨law_arr b2 b3, b1⟩
    | 2, hq => cases hq; exact ⟨law_arr d3 d4, kO, pO, d3, d4, d1, d5⟩
    | k + 3, hq => simp [zTys] at hq
  · exact ⟨va_Nw.of rfl (hts (.methodLinkNest RX4 25 yX1_init "MapSheets") (List.mem_of_getElem? (i := 133) (by decide +kernel))),
      va_Nw.of rfl (hts (.methodLinkNest RX4 32 yX3_init "MapSheets") (List.mem_of_getElem? (i := 143) (by decide +kernel))),
      va_Nw.of rfl (hts (.methodLinkNest RX0 53 yX4_copyRow "MapSheets") (List.mem_of_getElem? (i := 187) (by decide +kernel))),
      va_Nw.of rfl (hts (.methodLinkNest RX0 65 yX4_isWithin "MapSheets") (List.mem_of_getElem? (i := 234) (by decide +kernel))),
      va_Nw.of rfl (hts (.methodLinkNest RX0 97 yX4_exchange "MapSheets") (List.mem_of_getElem? (i := 245) (by decide +kernel))),
      va_Nw.of rfl (hts (.methodLinkNest RX0 93 yX4_valueAt "MapSheets") (List.mem_of_getElem? (i := 276) (by decide +kernel))),
      va_Nw.of rfl (hts (.methodLinkNest RX1 51 yX4_valueAt "MapSheets") (List.mem_of_getElem? (i := 406) (by decide +kernel))),
      va_Nw.of rfl (hts (.methodLinkNest RX3 33 yX4_isDigit "MapSheets") (List.mem_of_getElem? (i := 614) (by decide +kernel)))⟩
/-- one call of both programs: the same answer, states that agree again -/
def Pr (l : Launch) (G : zG) (y4 : MethodName) (ws4 : List Cond) (f4 n4 : Nat) (y5 : MethodName) (ws5 : List Cond) (f5 n5 : Nat) (As : List Value) (ad : Nat → Nat → Nat) (m : Nat → Nat) (N : Nat) (σ : Nat → Nat) (T : Nat → Nat → Nat) (o n : Nat) (f : Nat → Int32) (x : Nat → Nat) (len : Nat) (V : Nat → Nat → Nat) (ζ : Nat → Nat) (B : Nat → Int32) : Prop :=
  ∃ (v : Int32) (σ' : Nat → Nat) (T' : Nat → Nat → Nat) (o' n' : Nat) (f' : Nat → Int32) (x' : Nat → Nat) (len' : Nat) (V' : Nat → Nat → Nat) (ζ' : Nat → Nat) (B' : Nat → Int32), Iv (N + 1) σ' T' o' n' V' x' len' ∧
    Met l y4 ws4 (zRm f4 n4) (zPc G (.ref (ad 0 0) :: As) (va_P G.1 vwCl (wX G ad σ T o n f x len))) (zQ (zA (wX G ad σ T o n f x len)) (some (.int v)) (va_P G.1 vwCl (wX G ad σ' T' o' n' f' x' len'))) 0 0 (zA (wX G ad σ T o n f x len)) ∧
    Met l y5 ws5 (zRm f5 n5) (zPc G (.ref (m 0) :: As) (va_P G.1 vwCl (wM G m σ V ζ n x len B))) (zQ (zA (wM G m σ V ζ n x len B)) (some (.int v)) (va_P G.1 vwCl (wM G m σ' V' ζ' n' x' len' B'))) 0 0 (zA (wM G m σ V ζ n x len B))
