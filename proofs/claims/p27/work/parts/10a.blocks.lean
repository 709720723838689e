/-! blocks: the class's labels after n edges, and how many blocks it counts; texts: the reading machine -/
def blS (σ : Nat → Nat) (L : Nat → Nat) (e : Nat) : Nat → Nat :=
  if agn σ e = 1 ∧ L (fS σ e) ≠ L (sS σ e) then
    fun k => if L k = max (L (fS σ e)) (L (sS σ e)) then min (L (fS σ e)) (L (sS σ e)) else L k
  else L
def blk (σ : Nat → Nat) : Nat → Nat → Nat
  | 0 => fun k => k
  | n + 1 => blS σ (blk σ n) n
def fnd (σ : Nat → Nat) : Nat → Nat
  | 0 => nS σ
  | n + 1 => if agn σ n = 1 ∧ blk σ n (fS σ n) ≠ blk σ n (sS σ n) then fnd σ n - 1 else fnd σ n
theorem blk_inv (σ : Nat → Nat) (n : Nat) : ∀ k, blk σ n k ≤ k ∧ blk σ n (blk σ n k) = blk σ n k := by
  induction n with
  | zero => exact fun k => ⟨Nat.le_refl k, rfl⟩
  | succ n ih =>
    intro k
    rw [blk]
    unfold blS
    by_cases h : agn σ n = 1 ∧ blk σ n (fS σ n) ≠ blk σ n (sS σ n)
    · rw [if_pos h]
      have h1 := ih (fS σ n)
      have h2 := ih (sS σ n)
      have hk := ih k
      generalize blk σ n (fS σ n) = a at h h1 ⊢
      generalize blk σ n (sS σ n) = b at h h2 ⊢
      have hmm : blk σ n (min a b) = min a b := by
        rcases Nat.le_total a b with q | q
        · rw [Nat.min_eq_left q]; exact h1.2
        · rw [Nat.min_eq_right q]; exact h2.2
      have hne : min a b ≠ max a b := by have := h.2; omega
      show (if blk σ n k = max a b then min a b else blk σ n k) ≤ k ∧ (if blk σ n (if blk σ n k = max a b then min a b else blk σ n k) = max a b then min a b else blk σ n (if blk σ n k = max a b then min a b else blk σ n k)) = (if blk σ n k = max a b then min a b else blk σ n k)
      by_cases q : blk σ n k = max a b
      · rw [if_pos q, hmm, if_neg hne]
        exact ⟨by omega, rfl⟩
      · rw [if_neg q, hk.2, if_neg q]
        exact ⟨hk.1, rfl⟩
    · rw [if_neg h]
      exact ih k
theorem blk_le (σ : Nat → Nat) (n k : Nat) : blk σ n k ≤ k := (blk_inv σ n k).1
theorem sm_split {f g : Nat → Nat} {n i : Nat} (hi : i < n) (h : ∀ j, j < n → j ≠ i → f j = g j) (h0 : f i = g i + 1) : sm f n = sm g n + 1 := by
  induction n with
  | zero => omega
  | succ n ih =>
    rw [sm, sm]
    by_cases q : i = n
    · subst q
      rw [sm_congr (fun j hj => h j (by omega) (by omega)), h0]
      omega
    · rw [ih (by omega) (fun j hj hn => h j (by omega) hn), h n (by omega) (by omega)]
      omega
theorem fnd_eq {N : Nat} {σ : Nat → Nat} (hO : Ok N σ) : ∀ n, n ≤ nE σ → fnd σ n = sm (fun k => if blk σ n k = k then 1 else 0) (nS σ) := by
  intro n
  induction n with
  | zero =>
    intro _
    show nS σ = _
    have h : ∀ m, sm (fun k => if blk σ 0 k = k then 1 else 0) m = m := by
      intro m
      induction m with
      | zero => rfl
      | succ m ih => rw [sm, ih]; show m + (if m = m then 1 else 0) = m + 1; rw [if_pos rfl]
    exact (h _).symm
  | succ n ih =>
    intro hn
    have hf := hO.lF (show n < nE σ by omega)
    rw [fnd, ih (by omega)]
    by_cases h : agn σ n = 1 ∧ blk σ n (fS σ n) ≠ blk σ n (sS σ n)
    · rw [if_pos h]
      have h1 := blk_inv σ n (fS σ n)
      have h2 := blk_inv σ n (sS σ n)
      have hb : blk σ (n + 1) = fun k => if blk σ n k = max (blk σ n (fS σ n)) (blk σ n (sS σ n)) then min (blk σ n (fS σ n)) (blk σ n (sS σ n)) else blk σ n k := by
        rw [blk]; unfold blS; rw [if_pos h]
      rw [hb]
      generalize blk σ n (fS σ n) = a at h h1 ⊢
      generalize blk σ n (sS σ n) = b at h h2 ⊢
      have hm : blk σ n (max a b) = max a b := by
        rcases Nat.le_total a b with q | q
        · rw [Nat.max_eq_right q]; exact h2.2
        · rw [Nat.max_eq_left q]; exact h1.2
      have hlt : max a b < nS σ := by omega
      have hne : min a b ≠ max a b := by have := h.2; omega
      have hs := sm_split (f := fun k => if blk σ n k = k then 1 else 0) (g := fun k => if (if blk σ n k = max a b then min a b else blk σ n k) = k then 1 else 0) hlt (fun j _ hj => by
          show (if blk σ n j = j then 1 else 0) = (if (if blk σ n j = max a b then min a b else blk σ n j) = j then 1 else 0)
          by_cases q : blk σ n j = max a b
          · rw [if_neg (show ¬ blk σ n j = j by rw [q]; exact fun z => hj z.symm), if_pos q, if_neg]
            intro z
            have := blk_le σ n j
            omega
          · rw [if_neg q]) (by
          show (if blk σ n (max a b) = max a b then 1 else 0) = (if (if blk σ n (max a b) = max a b then min a b else blk σ n (max a b)) = max a b then 1 else 0) + 1
          rw [if_pos hm, if_pos hm, if_neg hne])
      rw [hs]
      exact Nat.add_sub_cancel _ _
    · rw [if_neg h]
      have hb : blk σ (n + 1) = blk σ n := by rw [blk]; unfold blS; rw [if_neg h]
      rw [hb]
theorem fnd_pos {N : Nat} {σ : Nat → Nat} (hO : Ok N σ) {n : Nat} (hn : n ≤ nE σ) : 1 ≤ fnd σ n := by
  rw [fnd_eq hO n hn]
  have h0 := hO.lS
  exact sm_pos (i := 0) (by omega) (by
    show 0 < (if blk σ n 0 = 0 then 1 else 0)
    have := blk_le σ n 0
    rw [if_pos (by omega)]
    omega)
theorem sm_dec {P : Nat → Prop} {hd : ∀ i, Decidable (P i)} (n : Nat) : sm (fun k => if P k then 1 else 0) n ≤ n := by
  have := sm_le (f := fun k => if P k then 1 else 0) (b := 1) (fun i => by show (if P i then 1 else 0) ≤ 1; split <;> omega) n
  omega
theorem fnd_le {N : Nat} {σ : Nat → Nat} (hO : Ok N σ) {n : Nat} (hn : n ≤ nE σ) : fnd σ n ≤ 36 := by
  rw [fnd_eq hO n hn]
  have := sm_dec (P := fun k => blk σ n k = k) (hd := fun _ => inferInstance) (nS σ)
  have := hO.lS
  omega
/-! texts -/
def sdN (c : Nat) : Nat := if c = 110 then 0 else if c = 101 then 1 else if c = 115 then 2 else if c = 119 then 3 else 4
def xA (s c : Nat) : Nat :=
  if s = 0 then (if sdN c = 4 then 5 else 1)
  else if s = 1 then (if 48 ≤ c ∧ c ≤ 57 then 2 else 5)
  else if s = 2 then (if c = 45 then 4 else if c = 61 then 3 else 5)
  else if s = 3 then (if 48 ≤ c ∧ c ≤ 57 then 4 else 5)
  else if s = 4 then (if c = 59 then 0 else 5)
  else 5
theorem xA_le (s c : Nat) : xA s c ≤ 5 := by
  unfold xA
  repeat' split
  all_goals omega
theorem sdN_le (c : Nat) : sdN c ≤ 4 := by
  unfold sdN
  repeat' split
  all_goals omega
def stt (t : Nat → Nat) : Nat → Nat
  | 0 => 0
  | i + 1 => xA (stt t i) (t i)
theorem stt_le (t : Nat → Nat) (i : Nat) : stt t i ≤ 5 := by
  cases i with
  | zero => exact Nat.zero_le 5
  | succ i => exact xA_le _ _
/-- the fault of the text, 200: none -/
def flt (t : Nat → Nat) (n : Nat) : Nat :=
  if fst1 (fun i => decide (stt t (i + 1) = 5)) n < n then fst1 (fun i => decide (stt t (i + 1) = 5)) n
  else if stt t n = 0 then 200 else n
theorem z_dig {c : Nat} (h : c < 65536) : (0 ≤ nI c - nI 48 ∧ nI c - nI 48 ≤ nI 9) ↔ (48 ≤ c ∧ c ≤ 57) := by
  rw [← nI_0, Int32.le_iff_toInt_le, Int32.le_iff_toInt_le, pk_sub_toInt (show c < 2 ^ 30 by omega) (by omega), nI_toInt (by omega), nI_toInt (by omega)]
  omega
theorem z_max {a b : Nat} (ha : a < 2 ^ 31) (hb : b < 2 ^ 31) : (if nI a < nI b then nI b else nI a) = nI (max a b) := by
  by_cases h : a < b
  · rw [if_pos ((nI_ltI ha hb).mpr h), Nat.max_eq_right (by omega)]
  · rw [if_neg (fun q => h ((nI_ltI ha hb).mp q)), Nat.max_eq_left (by omega)]
theorem z_min {a b : Nat} (ha : a < 2 ^ 31) (hb : b < 2 ^ 31) : (if nI b < nI a then nI b else nI a) = nI (min a b) := by
  by_cases h : b < a
  · rw [if_pos ((nI_ltI hb ha).mpr h), Nat.min_eq_right (by omega)]
  · rw [if_neg (fun q => h ((nI_ltI hb ha).mp q)), Nat.min_eq_left (by omega)]
/-- one label row, the higher one renamed -/
def rnm (L : Nat → Nat) (lo hi : Nat) : Nat → Nat := fun k => if L k = hi then lo else L k
theorem rnm_inv {f g : Nat → Int32} {L : Nat → Nat} {lo hi i : Nat} (hf : ∀ j, j < 36 → f j = nI (L j)) (hg : ∀ j, g j = if j < i then nI (rnm L lo hi j) else f j) : True := trivial
def wB (G : zG) (b : Nat → Nat) (f : Nat → Int32) : va_W := [(b 0, .inr (1, [.ref (b 1)])), (b 1, .inl (G.2.1, 36, .inl f))]
def wTx (G : zG) (t : Nat → Nat) (x : Nat → Nat) (n : Nat) : va_W := [(t 0, .inr (3, [.ref (t 1), .int (nI n)])), (t 1, .inl (G.2.2.1, 100, .inl (fun i => nI (x i))))]
set_option maxHeartbeats 4000000 in
set_option maxRecDepth 100000 in
theorem kX1_lowestOf (l : Launch) (G : zG) (b : Nat → Nat) (L : Nat → Nat) (k : Nat) (hk : k < 36) : Met l yX1_lowestOf wsX1_lowestOf (zRm 1 22) (zPc G [.ref (b 0), .int (nI k)] (va_P G.1 vwCl (wB G b (fun k => nI (L k))))) (zS (.int (nI (L k)))) 0 0 (fun _ => False) := by
  refine zmkI (cc := cX1_lowestOf) (maxL := 2) (by decide) rfl (Nat.le_of_ble_eq_true rfl) ?_
  intro pr en st mi ar bl me cd ls Q hx hb hml hown hts hG hP hl hret
  have hown : st.vm.findClass RX1 = some mi.cls := hown
  have hl : lv_has ls 2 [(0, .ref (b 0)), (1, .int (nI k))] := hl
  have hP : va_P G.1 vwCl (wB G b (fun k => nI (L k))) st.heap := hP
  have hinX1 : ∀ w ∈ wsX10, w ∈ wsX1_lowestOf := by decide +kernel
  have hf9 := hts (.fieldLink RX1 9 "MapSheets$Blocks" "lowest" "[I") (by decide +kernel)
  have hz51 : Cond.initialized RX4 ∈ wsX1_lowestOf := by decide +kernel
  have hy51 : Cond.static yX4_valueAt ∈ wsX1_lowestOf := by decide +kernel
  refine lv_aload_n hx hb dX1_lowestOf_0 rfl (lv_at hl 0 rfl) ?_
  refine va_get (D := G.1) (ci := 1) (v := .ref (b 1)) (C := RX1) (T := TX1) (N := 1) hx hb hts hinX1 hown hG.1 hP 0 rfl rfl 0 (by decide) hf9 (fun _ h9 => h9) rfl dX1_lowestOf_1 ?_
  refine lv_iload_n hx hb dX1_lowestOf_4 rfl (lv_at hl 1 rfl) ?_
  refine lv_iload_n hx hb dX1_lowestOf_5 rfl (lv_at hl 1 rfl) ?_
  refine zrdN (As := [.ref (b 1), .int (nI k), .int (nI k)]) ⟨hx, hb, hml, hown, hts⟩ (kX4_valueAt l G (b 1) 36 (fun k => nI (L k)) k (nI k) (by omega) (by omega)) ⟨va_cnB 3 hts gX1_lowestOf_X4_valueAt_n51 rfl rfl rfl (hG.2.2.2.2.2.2.2.1) (hts _ hz51) (by decide +kernel) ⟨Nat.le_of_ble_eq_true rfl, Nat.le_of_ble_eq_true rfl⟩, hts _ hy51, trivial⟩ hG (hP.sub [1] rfl) rfl rfl hl.1 dX1_lowestOf_6 (Nat.le_of_ble_eq_true rfl) ⟨Nat.le_of_ble_eq_true rfl, Nat.le_of_ble_eq_true rfl⟩ ?_
  exact hret _ _ _ dX1_lowestOf_9 (congrArg nI (rfl))
set_option maxHeartbeats 4000000 in
set_option maxRecDepth 100000 in
theorem kX1_join (l : Launch) (G : zG) (b : Nat → Nat) (L : Nat → Nat) (lo : Nat) (hi2 : Nat) (hL : ∀ j, L j ≤ j) (hh : hi2 < 36) (hd : va_D (fun _ => True) (wB G b (fun k => nI (L k)))) : Met l yX1_join wsX1_join (zRm 0 0) (zPc G [.ref (b 0), .int (nI lo), .int (nI hi2)] (va_P G.1 vwCl (wB G b (fun k => nI (L k))))) (zQ (zA (wB G b (fun k => nI (L k)))) none (va_P G.1 vwCl (wB G b (fun k => nI (rnm L lo hi2 k))))) 0 0 (zA (wB G b (fun k => nI (L k)))) := by
  refine zmkWv (w := (wB G b (fun k => nI (L k)))) hd (cc := cX1_join) (maxL := 4) (by decide) rfl (Nat.le_of_ble_eq_true rfl) ?_
  intro pr en st mi ar bl me cd ls Q hx hb hml hown hts hG hP hl hD hS hret
  have hown : st.vm.findClass RX1 = some mi.cls := hown
  have hl : lv_has ls 4 [(0, .ref (b 0)), (1, .int (nI lo)), (2, .int (nI hi2))] := hl
  have hP : va_P G.1 vwCl (wB G b (fun k => nI (L k))) st.heap := hP
  have hD : va_D (zA (wB G b (fun k => nI (L k)))) (wB G b (fun k => nI (L k))) := hD
  have hinX1 : ∀ w ∈ wsX10, w ∈ wsX1_join := by decide +kernel
  have hf9 := hts (.fieldLink RX1 9 "MapSheets$Blocks" "lowest" "[I") (by decide +kernel)
  refine lv_iconst (v := nI 0) hx hb dX1_join_0 (by decide) ?_
  refine lv_istore_n (lv' := [(3, .int (nI 0)), (0, .ref (b 0)), (1, .int (nI lo)), (2, .int (nI hi2))]) hx hb dX1_join_1 rfl hl (by decide) rfl (fun ls hl => ?_)
  have loop2 : ∀ (n : Nat) (i : Nat) (g : Nat → Int32) (hg : ∀ j, j < 36 → g j = if j < i then nI (rnm L lo hi2 j) else nI (L j)) (hi : i ≤ 36) (hm : 36 < i + n) (ls : Array Slot) (hl : lv_has ls 4 [(0, .ref (b 0)), (1, .int (nI lo)), (2, .int (nI hi2)), (3, .int (nI i))]) (H : Heap) (locs : List Loc) (hP : va_P G.1 vwCl [(b 0, .inr (1, [.ref (b 1)])), (b 1, .inl (G.2.1, 36, .inl g))] H) (hD : va_D (zA (wB G b (fun k => nI (L k)))) [(b 0, .inr (1, [.ref (b 1)])), (b 1, .inl (G.2.1, 36, .inl g))]) (hS : va_S (zA (wB G b (fun k => nI (L k)))) st.heap H locs), W pr l en (zRm 0 0) st mi ar bl me cd H locs 0 0 Q (F0 mi 2 ls []) := by
    intro n
    induction n with
    | zero => intro i g hg hi hm ls hl H locs hP hD hS; exfalso; omega
    | succ n ih =>
      intro i g hg hi hm ls hl H locs hP hD hS
      refine lv_iload_n hx hb dX1_join_2 rfl (lv_at hl 3 rfl) ?_
      refine lv_aload_n hx hb dX1_join_3 rfl (lv_at hl 0 rfl) ?_
      refine va_get (D := G.1) (ci := 1) (v := .ref (b 1)) (C := RX1) (T := TX1) (N := 1) hx hb hts hinX1 hown hG.1 hP 0 rfl rfl 0 (by decide) hf9 (fun _ h9 => h9) rfl dX1_join_4 ?_
      refine va_alen (v := nI 36) hx hb hG.1 hP 1 0 rfl rfl rfl dX1_join_7 ?_
      refine lv_icmp_ge (tgt := 34) hx hb dX1_join_8 (by decide) (fun h8 => ?_) (fun h8 => ?_)
      · skip
        have h8 : 36 ≤ i := (nI_leI (by omega) (by omega)).mp h8
        exact hret _ _ _ _ dX1_join_34 hS (zP_ext (w1 := [(b 0, .inr (1, [.ref (b 1)]))]) (w2 := []) (fun j hj => by rw [hg j hj, if_pos (by omega)]) hP)
      · skip
        have h8 : ¬ (36 ≤ i) := fun q => h8 ((nI_leI (by omega) (by omega)).mpr q)
        refine lv_aload_n hx hb dX1_join_11 rfl (lv_at hl 0 rfl) ?_
        refine va_get (D := G.1) (ci := 1) (v := .ref (b 1)) (C := RX1) (T := TX1) (N := 1) hx hb hts hinX1 hown hG.1 hP 0 rfl rfl 0 (by decide) hf9 (fun _ h9 => h9) rfl dX1_join_12 ?_
        refine lv_iload_n hx hb dX1_join_15 rfl (lv_at hl 3 rfl) ?_
        refine va_iald hx hb hG.1 hP 1 0 rfl rfl (vp_in_nI (n := i) (N := 36) (by omega) (by omega)) dX1_join_16 ?_
        refine lv_topi (nm_r (e' := g i) (by rw [nI_clamp (by omega)]) ?_)
        refine lv_topi (nm_r (e' := nI (L i)) (by rw [hg i (by omega), if_neg (Nat.lt_irrefl i)]) ?_)
        refine lv_iload_n hx hb dX1_join_17 rfl (lv_at hl 2 rfl) ?_
        have hLi := hL i
        refine lv_icmp_ne (tgt := 28) hx hb dX1_join_18 (by decide) (fun h18 => ?_) (fun h18 => ?_)
        · skip
          have h18 : ¬ ((L i) = hi2) := fun q => h18 ((nI_eq (by omega) (by omega)).mpr q)
          refine lv_iinc (v := nI (i + 1)) (lv' := [(3, .int (nI (i + 1))), (0, .ref (b 0)), (1, .int (nI lo)), (2, .int (nI hi2))]) hx hb dX1_join_28 hl (k := 3) rfl (zinc1 _) (by decide) rfl (fun ls hl => ?_)
          refine lv_goto (tgt := 2) hx hb dX1_join_31 (by decide) ?_
          exact ih (i + 1) g (fun j hj => by
                    have hgj := hg j hj
                    unfold rnm at hgj ⊢
                    rw [hgj]; by_cases q : j = i
                    · subst q; rw [if_neg (Nat.lt_irrefl j), if_pos (by omega), if_neg h18]
                    · by_cases z : j < i
                      · rw [if_pos z, if_pos (show j < i + 1 by omega)]
                      · rw [if_neg z, if_neg (show ¬ j < i + 1 by omega)]) (by omega) (by omega) _ (lv_sub hl [1, 2, 3, 0] rfl) _ _ (hP) (hD) hS
        · skip
          have h18 : (L i) = hi2 := (nI_eq (by omega) (by omega)).mp h18
          refine lv_aload_n hx hb dX1_join_21 rfl (lv_at hl 0 rfl) ?_
          refine va_get (D := G.1) (ci := 1) (v := .ref (b 1)) (C := RX1) (T := TX1) (N := 1) hx hb hts hinX1 hown hG.1 hP 0 rfl rfl 0 (by decide) hf9 (fun _ h9 => h9) rfl dX1_join_22 ?_
          refine lv_iload_n hx hb dX1_join_25 rfl (lv_at hl 3 rfl) ?_
          refine lv_iload_n hx hb dX1_join_26 rfl (lv_at hl 1 rfl) ?_
          refine va_iast hx hb hG.1 hP hD hS 1 0 rfl rfl (vp_in_nI (n := i) (N := 36) (by omega) (by omega)) dX1_join_27 (fun H locs hP hD hS => ?_)
          rw [nI_clamp (show i < 2 ^ 31 by omega)] at hP hD
          have hP : va_P G.1 vwCl [(b 0, .inr (1, [.ref (b 1)])), (b 1, .inl (G.2.1, 36, .inl (upd g i (nI lo))))] H := hP
          have hD : va_D (zA (wB G b (fun k => nI (L k)))) [(b 0, .inr (1, [.ref (b 1)])), (b 1, .inl (G.2.1, 36, .inl (upd g i (nI lo))))] := hD
          refine lv_iinc (v := nI (i + 1)) (lv' := [(3, .int (nI (i + 1))), (0, .ref (b 0)), (1, .int (nI lo)), (2, .int (nI hi2))]) hx hb dX1_join_28 hl (k := 3) rfl (zinc1 _) (by decide) rfl (fun ls hl => ?_)
          refine lv_goto (tgt := 2) hx hb dX1_join_31 (by decide) ?_
          exact ih (i + 1) (upd g i (nI lo)) (fun j hj => by
                    have hgj := hg j hj
                    unfold rnm at hgj ⊢
                    unfold upd; by_cases q : j = i
                    · subst q; rw [if_pos rfl, if_pos (by omega), if_pos h18]
                    · rw [if_neg q, hgj]; by_cases z : j < i
                      · rw [if_pos z, if_pos (show j < i + 1 by omega)]
                      · rw [if_neg z, if_neg (show ¬ j < i + 1 by omega)]) (by omega) (by omega) _ (lv_sub hl [1, 2, 3, 0] rfl) _ _ (hP) (hD) hS
  exact loop2 37 0 (fun k => nI (L k)) (fun j hj => by rw [if_neg (Nat.not_lt_zero j)]) (by omega) (by omega) _ (lv_sub hl [1, 2, 3, 0] rfl) _ _ (hP) (hD) hS
set_option maxHeartbeats 4000000 in
set_option maxRecDepth 100000 in
theorem kX3_characterCount (l : Launch) (G : zG) (t : Nat → Nat) (x : Nat → Nat) (n : Nat)   : Met l yX3_characterCount wsX3_characterCount (zRm 0 0) (zPc G [.ref (t 0)] (va_P G.1 vwCl (wTx G t x n))) (zS (.int (nI (n)))) 0 0 (fun _ => False) := by
  refine zmkI (cc := cX3_characterCount) (maxL := 1) (by decide) rfl (Nat.le_of_ble_eq_true rfl) ?_
  intro pr en st mi ar bl me cd ls Q hx hb hml hown hts hG hP hl hret
  have hown : st.vm.findClass RX3 = some mi.cls := hown
  have hl : lv_has ls 1 [(0, .ref (t 0))] := hl
  have hP : va_P G.1 vwCl (wTx G t x n) st.heap := hP
  have hinX3 : ∀ w ∈ wsX30, w ∈ wsX3_characterCount := by decide +kernel
  have hf15 := hts (.fieldLink RX3 15 "MapSheets$SignText" "length" "I") (by decide +kernel)
  refine lv_aload_n hx hb dX3_characterCount_0 rfl (lv_at hl 0 rfl) ?_
  refine va_get (D := G.1) (ci := 3) (v := .int (nI n)) (C := RX3) (T := TX3) (N := 2) hx hb hts hinX3 hown hG.1 hP 0 rfl rfl 1 (by decide) hf15 (fun _ h9 => h9) rfl dX3_characterCount_1 ?_
  exact hret _ _ _ dX3_characterCount_4 (congrArg nI (rfl))
set_option maxHeartbeats 4000000 in
set_option maxRecDepth 100000 in
theorem kX4_isDigit (l : Launch) (G : zG)  (x : Int32)  : Met l yX4_isDigit wsX4_isDigit (zRm 1 22) (zPc G [.int x] (fun _ => True)) (zS (.int (if nI 0 ≤ x ∧ x ≤ nI 9 then 1 else 0))) 0 0 (fun _ => False) := by
  refine zmkZ (cc := cX4_isDigit) (maxL := 1) (by decide) rfl (Nat.le_of_ble_eq_true rfl) ?_
  intro pr en st mi ar bl me cd ls Q hx hb hml hown hts hG hP hl hret
  have hown : st.vm.findClass RX4 = some mi.cls := hown
  have hl : lv_has ls 1 [(0, .int x)] := hl
  refine lv_iload_n hx hb dX4_isDigit_0 rfl (lv_at hl 0 rfl) ?_
  refine lv_iconst (v := nI 0) hx hb dX4_isDigit_1 (by decide) ?_
  refine lv_bipush (v := nI 9) hx hb dX4_isDigit_2 (by decide) ?_
  refine zrdS (As := [.int x, .int (nI 0), .int (nI 9)]) ⟨hx, hb, hml, hown, hts⟩ (kX4_isWithin l G  x (nI 0) (nI 9)) (va_cwS 3 hts gX4_isDigit_X4_isWithin rfl rfl rfl (by decide +kernel) ⟨Nat.le_of_ble_eq_true rfl, Nat.le_of_ble_eq_true rfl⟩) hG (trivial) rfl rfl hl.1 dX4_isDigit_4 (Nat.le_of_ble_eq_true rfl) ⟨Nat.le_of_ble_eq_true rfl, Nat.le_of_ble_eq_true rfl⟩ ?_
  exact hret _ _ _ dX4_isDigit_7 (z_i (Iff.rfl))