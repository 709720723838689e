/-! blocks: the labels that the reference ends with are the class's -/
def Cst (σ : Nat → Nat) (n : Nat) (f : Nat → Nat) : Prop := ∀ e, e < n → agn σ e = 1 → f (fS σ e) = f (sS σ e)
theorem blk_cst (σ : Nat → Nat) : ∀ n, Cst σ n (blk σ n) := by
  intro n
  induction n with
  | zero => exact fun e he => absurd he (Nat.not_lt_zero e)
  | succ n ih =>
    intro e he ha
    rw [blk]
    unfold blS
    by_cases q : agn σ n = 1 ∧ blk σ n (fS σ n) ≠ blk σ n (sS σ n)
    · rw [if_pos q]
      show (if blk σ n (fS σ e) = _ then _ else blk σ n (fS σ e)) = (if blk σ n (sS σ e) = _ then _ else blk σ n (sS σ e))
      rcases Nat.lt_succ_iff_lt_or_eq.mp he with z | z
      · rw [ih e z ha]
      · subst z
        rcases Nat.le_total (blk σ e (fS σ e)) (blk σ e (sS σ e)) with y | y
        · rw [Nat.max_eq_right y, Nat.min_eq_left y, if_neg q.2, if_pos rfl]
        · rw [Nat.max_eq_left y, Nat.min_eq_right y, if_pos rfl, if_neg (fun z => q.2 z.symm)]
    · rw [if_neg q]
      rcases Nat.lt_succ_iff_lt_or_eq.mp he with z | z
      · exact ih e z ha
      · subst z
        exact Decidable.byContradiction fun y => q ⟨ha, y⟩
theorem blk_f {σ : Nat → Nat} {f : Nat → Nat} : ∀ n, Cst σ n f → ∀ k, f (blk σ n k) = f k := by
  intro n
  induction n with
  | zero => exact fun _ _ => rfl
  | succ n ih =>
    intro hf k
    have hf' : Cst σ n f := fun e he => hf e (by omega)
    have hk := ih hf' k
    rw [blk]
    unfold blS
    by_cases q : agn σ n = 1 ∧ blk σ n (fS σ n) ≠ blk σ n (sS σ n)
    · rw [if_pos q]
      show f (if blk σ n k = _ then _ else blk σ n k) = f k
      have h1 : f (blk σ n (fS σ n)) = f (blk σ n (sS σ n)) := by rw [ih hf', ih hf']; exact hf n (by omega) q.1
      by_cases y : blk σ n k = max (blk σ n (fS σ n)) (blk σ n (sS σ n))
      · rw [if_pos y, ← hk, y]
        rcases Nat.le_total (blk σ n (fS σ n)) (blk σ n (sS σ n)) with z | z
        · rw [Nat.max_eq_right z, Nat.min_eq_left z]; exact h1
        · rw [Nat.max_eq_left z, Nat.min_eq_right z]; exact h1.symm
      · rw [if_neg y]; exact hk
    · rw [if_neg q]
      exact hk
/-- labels that keep to the agreed edges and are no higher than their sheets -/
def LbI (σ : Nat → Nat) (L : Nat → Nat) : Prop := ∀ k, k < nS σ → L k ≤ k ∧ ∀ f, Cst σ (nE σ) f → f (L k) = f k
theorem LbI.eq {N : Nat} {σ : Nat → Nat} {L : Nat → Nat} (hO : Ok N σ) (h : LbI σ L) (hc : Cst σ (nE σ) L) {k : Nat} (hk : k < nS σ) : L k = blk σ (nE σ) k := by
  have h1 := (h k hk).2 (blk σ (nE σ)) (blk_cst σ (nE σ))
  have h2 := blk_le σ (nE σ) (L k)
  have h3 := blk_f (nE σ) hc k
  have h4 := blk_le σ (nE σ) k
  have h5 := (h (blk σ (nE σ) k) (by omega)).1
  omega
theorem sm_su {L : Nat → Nat} {i v n : Nat} (hi : i < n) : sm (su L i v) n + L i = sm L n + v := by
  induction n with
  | zero => omega
  | succ n ih =>
    rw [sm, sm]
    by_cases q : i = n
    · subst q
      rw [su_at, sm_congr (f := su L i v) (g := L) (fun j hj => su_ne L v (by omega))]
      omega
    · have := ih (by omega)
      rw [su_ne L v (show n ≠ i by omega)]
      omega
/-- two labels made one, the lower -/
theorem LbI.join {σ : Nat → Nat} {L : Nat → Nat} (h : LbI σ L) {e v : Nat} (he : e < nE σ) (ha : agn σ e = 1) (hf : fS σ e < nS σ) (hs : sS σ e < nS σ) (hne : L (fS σ e) ≠ L (sS σ e)) (hv : v = min (L (fS σ e)) (L (sS σ e))) :
    LbI σ (su (su L (fS σ e) v) (sS σ e) v) ∧ sm (su (su L (fS σ e) v) (sS σ e) v) (nS σ) < sm L (nS σ) := by
  have key : ∀ f, Cst σ (nE σ) f → f v = f (fS σ e) ∧ f v = f (sS σ e) := by
    intro f hf'
    have h1 := (h (fS σ e) hf).2 f hf'
    have h2 := (h (sS σ e) hs).2 f hf'
    have h3 := hf' e he ha
    rcases Nat.le_total (L (fS σ e)) (L (sS σ e)) with z | z
    · rw [hv, Nat.min_eq_left z, h1]; exact ⟨rfl, h3⟩
    · rw [hv, Nat.min_eq_right z, h2]; exact ⟨h3.symm, rfl⟩
  have l1 := (h (fS σ e) hf).1
  have l2 := (h (sS σ e) hs).1
  constructor
  · intro k hk
    by_cases q : k = sS σ e
    · subst q
      rw [su_at]
      exact ⟨by omega, fun f hf' => (key f hf').2⟩
    · rw [su_ne _ _ q]
      by_cases q2 : k = fS σ e
      · subst q2
        rw [su_at]
        exact ⟨by omega, fun f hf' => (key f hf').1⟩
      · rw [su_ne _ _ q2]
        exact h k hk
  · have s1 := sm_su (L := L) (v := v) hf
    have s2 := sm_su (L := su L (fS σ e) v) (v := v) hs
    by_cases q : sS σ e = fS σ e
    · rw [q] at hne; exact absurd rfl hne
    · rw [su_ne L v q] at s2
      omega
def blF (σ : Nat → Nat) (B : Nat → Int32) : Nat → Int32 := fun k => if k < nS σ then nI (blk σ (nE σ) k) else B k
theorem blF_at {σ : Nat → Nat} {B : Nat → Int32} {k : Nat} (h : k < nS σ) : blF σ B k = nI (blk σ (nE σ) k) := if_pos h
theorem sm_id (n : Nat) : sm (fun k => k) n ≤ n * n := by
  induction n with
  | zero => exact Nat.le_refl 0
  | succ n ih =>
    rw [sm]
    have : (n + 1) * (n + 1) = n * n + n + n + 1 := by rw [Nat.add_mul, Nat.mul_add, Nat.one_mul, Nat.mul_one]; omega
    omega
theorem min_ite {a b : Nat} (h : a < b) : a = min a b := by omega
theorem min_ite2 {a b : Nat} (h : ¬ a < b) : b = min a b := by omega
set_option maxHeartbeats 4000000 in
set_option maxRecDepth 100000 in
theorem kX5_findsBlocks (l : Launch) (G : zG) (m : Nat → Nat) (σ : Nat → Nat) (V : Nat → Nat → Nat) (ζ : Nat → Nat) (ns : Nat) (x : Nat → Nat) (len : Nat) (B : Nat → Int32) {N : Nat}  (hO : Ok N σ) (hd : va_D (fun _ => True) (wM G m σ V ζ ns x len B)) : Met l yX5_findsBlocks wsX5_findsBlocks (zRm 3 63) (zPc G [.ref (m 0)] (va_P G.1 vwCl (wM G m σ V ζ ns x len B))) (zQ (zA (wM G m σ V ζ ns x len B)) none (va_P G.1 vwCl (wM G m σ V ζ ns x len (blF σ B)))) 0 0 (zA (wM G m σ V ζ ns x len B)) := by
  refine zmkWv (w := (wM G m σ V ζ ns x len B)) hd (cc := cX5_findsBlocks) (maxL := 5) (by decide) rfl (Nat.le_of_ble_eq_true rfl) ?_
  intro pr en st mi ar bl me cd ls Q hx hb hml hown hts hG hP hl hD hS hret
  have hown : st.vm.findClass RX5 = some mi.cls := hown
  have hl : lv_has ls 5 [(0, .ref (m 0))] := hl
  have hP : va_P G.1 vwCl (wM G m σ V ζ ns x len B) st.heap := hP
  have hD : va_D (zA (wM G m σ V ζ ns x len B)) (wM G m σ V ζ ns x len B) := hD
  have hinX5 : ∀ w ∈ wsX50, w ∈ wsX5_findsBlocks := by decide +kernel
  have hf22 := hts (.fieldLink RX5 22 "MapSheetsModel" "block" "[I") (by decide +kernel)
  have hc := hO.c
  have hs := hO.lS
  have hr := hO.lR
  have hne := hO.lE
  refine lv_iconst (v := nI 0) hx hb dX5_findsBlocks_0 (by decide) ?_
  refine lv_istore_n (lv' := [(1, .int (nI 0)), (0, .ref (m 0))]) hx hb dX5_findsBlocks_1 rfl hl (by decide) rfl (fun ls hl => ?_)
  have loop2 : ∀ (n : Nat) (i : Nat) (g : Nat → Int32) (hg : ∀ j, j < i → g j = nI j) (hgr : ∀ j, i ≤ j → g j = B j) (hi : i ≤ nS σ) (hn : nS σ < i + n) (ls : Array Slot) (hl : lv_has ls 5 [(0, .ref (m 0)), (1, .int (nI i))]) (H : Heap) (locs : List Loc) (hP : va_P G.1 vwCl (wM G m σ V ζ ns x len g) H) (hD : va_D (zA (wM G m σ V ζ ns x len B)) (wM G m σ V ζ ns x len g)) (hS : va_S (zA (wM G m σ V ζ ns x len B)) st.heap H locs), W pr l en (zRm 3 63) st mi ar bl me cd H locs 0 0 Q (F0 mi 2 ls []) := by
    intro n
    induction n with
    | zero => intro i g hg hgr hi hn ls hl H locs hP hD hS; exfalso; omega
    | succ n ih2 =>
      intro i g hg hgr hi hn ls hl H locs hP hD hS
      refine lv_iload_n hx hb dX5_findsBlocks_2 rfl (lv_at hl 1 rfl) ?_
      refine lv_aload_n hx hb dX5_findsBlocks_3 rfl (lv_at hl 0 rfl) ?_
      refine zrdV (As := []) ⟨hx, hb, hml, hown, hts⟩ (kX5_sheets l G m σ V ζ ns x len g ) (cwV 0 hts gX5_findsBlocks_X5_sheets rfl rfl rfl (by decide +kernel) ⟨Nat.le_of_ble_eq_true rfl, Nat.le_of_ble_eq_true rfl⟩) hG (va_recv (q0 := 0) (ci := 5) hG.1 hP rfl rfl) (hP) rfl rfl hl.1 dX5_findsBlocks_4 (Nat.le_of_ble_eq_true rfl) ⟨Nat.le_of_ble_eq_true rfl, Nat.le_of_ble_eq_true rfl⟩ ?_
      refine lv_icmp_ge (tgt := 23) hx hb dX5_findsBlocks_7 (by decide) (fun h7 => ?_) (fun h7 => ?_)
      · skip
        have h7 : (nS σ) ≤ i := (nI_leI (by omega) (by omega)).mp h7
        refine lv_iconst (v := nI 1) hx hb dX5_findsBlocks_23 (by decide) ?_
        refine lv_istore_n (lv' := [(1, .int (nI 1)), (0, .ref (m 0))]) hx hb dX5_findsBlocks_24 rfl hl (by decide) rfl (fun ls hl => ?_)
        have loop25 : ∀ (n : Nat) (c : Nat) (L : Nat → Nat) (g : Nat → Int32) (hL : LbI σ L) (hg : ∀ j, j < nS σ → g j = nI (L j)) (hgr : ∀ j, nS σ ≤ j → g j = B j) (hc : c = 1 ∨ (c = 0 ∧ Cst σ (nE σ) L)) (hn : sm L (nS σ) + c < n) (ls : Array Slot) (hl : lv_has ls 5 [(0, .ref (m 0)), (1, .int (nI c))]) (H : Heap) (locs : List Loc) (hP : va_P G.1 vwCl (wM G m σ V ζ ns x len g) H) (hD : va_D (zA (wM G m σ V ζ ns x len B)) (wM G m σ V ζ ns x len g)) (hS : va_S (zA (wM G m σ V ζ ns x len B)) st.heap H locs), W pr l en (zRm 3 63) st mi ar bl me cd H locs 0 0 Q (F0 mi 25 ls []) := by
          intro n
          induction n with
          | zero => intro c L g hL hg hgr hc hn ls hl H locs hP hD hS; exfalso; omega
          | succ n ih25 =>
            intro c L g hL hg hgr hc hn ls hl H locs hP hD hS
            refine lv_iload_n hx hb dX5_findsBlocks_25 rfl (lv_at hl 1 rfl) ?_
            refine lv_if_eq (tgt := 133) hx hb dX5_findsBlocks_26 (by decide) (fun h26 => ?_) (fun h26 => ?_)
            · skip
              have h26 : c = 0 := (z_eq0 (by omega)).mp h26
              exact hret _ _ _ _ dX5_findsBlocks_133 hS (wM_s (fun j _ => rfl) (fun j _ => rfl) (fun j _ => rfl) (fun j _ => by by_cases q : j < nS σ; (rw [hg j q, blF_at q, hL.eq hO ((hc.resolve_left (by omega)).2) q]); (rw [hgr j (by omega)]; exact (if_neg q).symm)) hP)
            · skip
              have h26 : ¬ (c = 0) := fun q => h26 ((z_eq0 (by omega)).mpr q)
              have h26 : 0 < c := Nat.pos_of_ne_zero h26
              have hc1 : c = 1 := by rcases hc with z | z; exact z; exact absurd z.1 (by omega)
              refine lv_iconst (v := nI 0) hx hb dX5_findsBlocks_29 (by decide) ?_
              refine lv_istore_n (lv' := [(1, .int (nI 0)), (0, .ref (m 0))]) hx hb dX5_findsBlocks_30 rfl hl (by decide) rfl (fun ls hl => ?_)
              refine lv_iconst (v := nI 0) hx hb dX5_findsBlocks_31 (by decide) ?_
              refine lv_istore_n (lv' := [(2, .int (nI 0)), (1, .int (nI 0)), (0, .ref (m 0))]) hx hb dX5_findsBlocks_32 rfl hl (by decide) rfl (fun ls hl => ?_)
              have loop33 : ∀ (k : Nat) (e : Nat) (c' : Nat) (L' : Nat → Nat) (g' : Nat → Int32) (hL' : LbI σ L') (hg' : ∀ j, j < nS σ → g' j = nI (L' j)) (hgr' : ∀ j, nS σ ≤ j → g' j = B j) (hcc : (c' = 0 ∧ L' = L ∧ ∀ e2, e2 < e → agn σ e2 = 1 → L' (fS σ e2) = L' (sS σ e2)) ∨ (c' = 1 ∧ sm L' (nS σ) < sm L (nS σ))) (hi : e ≤ nE σ) (hm : nE σ < e + k) (ls : Array Slot) (hl : lv_has ls 5 [(0, .ref (m 0)), (1, .int (nI c')), (2, .int (nI e))]) (H : Heap) (locs : List Loc) (hP : va_P G.1 vwCl (wM G m σ V ζ ns x len g') H) (hD : va_D (zA (wM G m σ V ζ ns x len B)) (wM G m σ V ζ ns x len g')) (hS : va_S (zA (wM G m σ V ζ ns x len B)) st.heap H locs), W pr l en (zRm 3 63) st mi ar bl me cd H locs 0 0 Q (F0 mi 33 ls []) := by
                intro k
                induction k with
                | zero => intro e c' L' g' hL' hg' hgr' hcc hi hm ls hl H locs hP hD hS; exfalso; omega
                | succ k ih33 =>
                  intro e c' L' g' hL' hg' hgr' hcc hi hm ls hl H locs hP hD hS
                  refine lv_iload_n hx hb dX5_findsBlocks_33 rfl (lv_at hl 2 rfl) ?_
                  refine lv_aload_n hx hb dX5_findsBlocks_34 rfl (lv_at hl 0 rfl) ?_
                  refine zrdV (As := []) ⟨hx, hb, hml, hown, hts⟩ (kX5_edges l G m σ V ζ ns x len g' (hO)) (cwV 0 hts gX5_findsBlocks_X5_edges rfl rfl rfl (by decide +kernel) ⟨Nat.le_of_ble_eq_true rfl, Nat.le_of_ble_eq_true rfl⟩) hG (va_recv (q0 := 0) (ci := 5) hG.1 hP rfl rfl) (hP) rfl rfl hl.1 dX5_findsBlocks_35 (Nat.le_of_ble_eq_true rfl) ⟨Nat.le_of_ble_eq_true rfl, Nat.le_of_ble_eq_true rfl⟩ ?_
                  refine lv_icmp_ge (tgt := 130) hx hb dX5_findsBlocks_38 (by decide) (fun h38 => ?_) (fun h38 => ?_)
                  · skip
                    have h38 : (nE σ) ≤ e := (nI_leI (by omega) (by omega)).mp h38
                    refine lv_goto (tgt := 25) hx hb dX5_findsBlocks_130 (by decide) ?_
                    exact ih25 c' L' g' (hL') (hg') (hgr') (by rcases hcc with z | z; exact Or.inr ⟨z.1, fun e2 he2 => z.2.2 e2 (by omega)⟩; exact Or.inl z.1) (by rcases hcc with z | z; (rw [z.1, z.2.1]; omega); (have z2 := z.2; rw [z.1]; omega)) _ (lv_sub hl [0, 1] rfl) _ _ (hP) (hD) hS
                  · skip
                    have h38 : ¬ ((nE σ) ≤ e) := fun q => h38 ((nI_leI (by omega) (by omega)).mpr q)
                    have hfs := hO.lF (show e < nE σ by omega)
                    have hl1 := (hL' (fS σ e) hfs.1).1
                    have hl2 := (hL' (sS σ e) hfs.2).1
                    refine lv_aload_n hx hb dX5_findsBlocks_41 rfl (lv_at hl 0 rfl) ?_
                    refine va_get (D := G.1) (ci := 5) (v := .ref (m 5)) (C := RX5) (T := TX5) (N := 7) hx hb hts hinX5 hown hG.1 hP 0 rfl rfl 6 (by decide) hf22 (fun _ h9 => h9) rfl dX5_findsBlocks_42 ?_
                    refine lv_aload_n hx hb dX5_findsBlocks_45 rfl (lv_at hl 0 rfl) ?_
                    refine lv_iload_n hx hb dX5_findsBlocks_46 rfl (lv_at hl 2 rfl) ?_
                    refine zrdV (As := [.int (nI e)]) ⟨hx, hb, hml, hown, hts⟩ (kX5_firstOf l G m σ V ζ ns x len g' e (hO) (by omega)) (cwV 1 hts gX5_findsBlocks_X5_firstOf rfl rfl rfl (by decide +kernel) ⟨Nat.le_of_ble_eq_true rfl, Nat.le_of_ble_eq_true rfl⟩) hG (va_recv (q0 := 0) (ci := 5) hG.1 hP rfl rfl) (hP) rfl rfl hl.1 dX5_findsBlocks_47 (Nat.le_of_ble_eq_true rfl) ⟨Nat.le_of_ble_eq_true rfl, Nat.le_of_ble_eq_true rfl⟩ ?_
                    have hf47_0 := hO.lF (show e < nE σ by omega)
                    refine va_iald hx hb hG.1 hP 5 0 rfl rfl (vp_in_nI (n := fS σ e) (N := 36) (by omega) (by omega)) dX5_findsBlocks_50 ?_
                    refine lv_topi (nm_r (e' := g' (fS σ e)) (by rw [nI_clamp (by omega)]) ?_)
                    refine lv_topi (nm_r (e' := nI (L' (fS σ e))) (hg' _ hfs.1) ?_)
                    refine lv_istore_n (lv' := [(3, .int (nI (L' (fS σ e)))), (0, .ref (m 0)), (1, .int (nI c')), (2, .int (nI e))]) hx hb dX5_findsBlocks_51 rfl hl (by decide) rfl (fun ls hl => ?_)
                    refine lv_aload_n hx hb dX5_findsBlocks_52 rfl (lv_at hl 1 rfl) ?_
                    refine va_get (D := G.1) (ci := 5) (v := .ref (m 5)) (C := RX5) (T := TX5) (N := 7) hx hb hts hinX5 hown hG.1 hP 0 rfl rfl 6 (by decide) hf22 (fun _ h9 => h9) rfl dX5_findsBlocks_53 ?_
                    refine lv_aload_n hx hb dX5_findsBlocks_56 rfl (lv_at hl 1 rfl) ?_
                    refine lv_iload_n hx hb dX5_findsBlocks_57 rfl (lv_at hl 3 rfl) ?_
                    refine zrdV (As := [.int (nI e)]) ⟨hx, hb, hml, hown, hts⟩ (kX5_secondOf l G m σ V ζ ns x len g' e (hO) (by omega)) (cwV 1 hts gX5_findsBlocks_X5_secondOf rfl rfl rfl (by decide +kernel) ⟨Nat.le_of_ble_eq_true rfl, Nat.le_of_ble_eq_true rfl⟩) hG (va_recv (q0 := 0) (ci := 5) hG.1 hP rfl rfl) (hP) rfl rfl hl.1 dX5_findsBlocks_58 (Nat.le_of_ble_eq_true rfl) ⟨Nat.le_of_ble_eq_true rfl, Nat.le_of_ble_eq_true rfl⟩ ?_
                    have hf58_0 := hO.lF (show e < nE σ by omega)
                    refine va_iald hx hb hG.1 hP 5 0 rfl rfl (vp_in_nI (n := sS σ e) (N := 36) (by omega) (by omega)) dX5_findsBlocks_61 ?_
                    refine lv_topi (nm_r (e' := g' (sS σ e)) (by rw [nI_clamp (by omega)]) ?_)
                    refine lv_topi (nm_r (e' := nI (L' (sS σ e))) (hg' _ hfs.2) ?_)
                    refine lv_istore (lv' := [(4, .int (nI (L' (sS σ e)))), (3, .int (nI (L' (fS σ e)))), (0, .ref (m 0)), (1, .int (nI c')), (2, .int (nI e))]) hx hb dX5_findsBlocks_62 hl (by decide) rfl (fun ls hl => ?_)
                    refine lv_aload_n hx hb dX5_findsBlocks_64 rfl (lv_at hl 2 rfl) ?_
                    refine lv_iload_n hx hb dX5_findsBlocks_65 rfl (lv_at hl 4 rfl) ?_
                    refine zrdV (As := [.int (nI e)]) ⟨hx, hb, hml, hown, hts⟩ (kX5_isAgreed l G m σ V ζ ns x len g' e (hO) (by omega)) (cwV 1 hts gX5_findsBlocks_X5_isAgreed rfl rfl rfl (by decide +kernel) ⟨Nat.le_of_ble_eq_true rfl, Nat.le_of_ble_eq_true rfl⟩) hG (va_recv (q0 := 0) (ci := 5) hG.1 hP rfl rfl) (hP) rfl rfl hl.1 dX5_findsBlocks_66 (Nat.le_of_ble_eq_true rfl) ⟨Nat.le_of_ble_eq_true rfl, Nat.le_of_ble_eq_true rfl⟩ ?_
                    refine lv_if_eq (tgt := 124) hx hb dX5_findsBlocks_69 (by decide) (fun h69 => ?_) (fun h69 => ?_)
                    · skip
                      have h69 : ¬ (agn σ e = 1) := (z_b0).mp h69
                      refine lv_iinc (v := nI (e + 1)) (lv' := [(2, .int (nI (e + 1))), (4, .int (nI (L' (sS σ e)))), (3, .int (nI (L' (fS σ e)))), (0, .ref (m 0)), (1, .int (nI c'))]) hx hb dX5_findsBlocks_124 hl (k := 4) rfl (zinc1 _) (by decide) rfl (fun ls hl => ?_)
                      refine lv_goto (tgt := 33) hx hb dX5_findsBlocks_127 (by decide) ?_
                      exact ih33 (e + 1) c' L' g' (hL') (hg') (hgr') (by rcases hcc with z | z; exact Or.inl ⟨z.1, z.2.1, fun e2 he2 ha2 => by rcases Nat.lt_succ_iff_lt_or_eq.mp he2 with y | y; exact z.2.2 e2 y ha2; (subst y; exact absurd ha2 h69)⟩; exact Or.inr z) (by omega) (by omega) _ (lv_sub hl [3, 4, 0] rfl) _ _ (hP) (hD) hS
                    · skip
                      have h69 : ¬ (¬ (agn σ e = 1)) := fun q => h69 ((z_b0).mpr q)
                      have h69 : agn σ e = 1 := Decidable.of_not_not h69
                      refine lv_iload_n hx hb dX5_findsBlocks_72 rfl (lv_at hl 1 rfl) ?_
                      refine lv_iload hx hb dX5_findsBlocks_73 (lv_at hl 0 rfl) ?_
                      refine lv_icmp_eq (tgt := 124) hx hb dX5_findsBlocks_75 (by decide) (fun h75 => ?_) (fun h75 => ?_)
                      · skip
                        have h75 : (L' (fS σ e)) = (L' (sS σ e)) := (nI_eq (by omega) (by omega)).mp h75
                        refine lv_iinc (v := nI (e + 1)) (lv' := [(2, .int (nI (e + 1))), (4, .int (nI (L' (sS σ e)))), (3, .int (nI (L' (fS σ e)))), (0, .ref (m 0)), (1, .int (nI c'))]) hx hb dX5_findsBlocks_124 hl (k := 4) rfl (zinc1 _) (by decide) rfl (fun ls hl => ?_)
                        refine lv_goto (tgt := 33) hx hb dX5_findsBlocks_127 (by decide) ?_
                        exact ih33 (e + 1) c' L' g' (hL') (hg') (hgr') (by rcases hcc with z | z; exact Or.inl ⟨z.1, z.2.1, fun e2 he2 ha2 => by rcases Nat.lt_succ_iff_lt_or_eq.mp he2 with y | y; exact z.2.2 e2 y ha2; (subst y; exact h75)⟩; exact Or.inr z) (by omega) (by omega) _ (lv_sub hl [3, 4, 0] rfl) _ _ (hP) (hD) hS
                      · skip
                        have h75 : ¬ ((L' (fS σ e)) = (L' (sS σ e))) := fun q => h75 ((nI_eq (by omega) (by omega)).mpr q)
                        refine lv_aload_n hx hb dX5_findsBlocks_78 rfl (lv_at hl 2 rfl) ?_
                        refine va_get (D := G.1) (ci := 5) (v := .ref (m 5)) (C := RX5) (T := TX5) (N := 7) hx hb hts hinX5 hown hG.1 hP 0 rfl rfl 6 (by decide) hf22 (fun _ h9 => h9) rfl dX5_findsBlocks_79 ?_
                        refine lv_aload_n hx hb dX5_findsBlocks_82 rfl (lv_at hl 2 rfl) ?_
                        refine lv_iload_n hx hb dX5_findsBlocks_83 rfl (lv_at hl 4 rfl) ?_
                        refine zrdV (As := [.int (nI e)]) ⟨hx, hb, hml, hown, hts⟩ (kX5_firstOf l G m σ V ζ ns x len g' e (hO) (by omega)) (cwV 1 hts gX5_findsBlocks_X5_firstOf rfl rfl rfl (by decide +kernel) ⟨Nat.le_of_ble_eq_true rfl, Nat.le_of_ble_eq_true rfl⟩) hG (va_recv (q0 := 0) (ci := 5) hG.1 hP rfl rfl) (hP) rfl rfl hl.1 dX5_findsBlocks_84 (Nat.le_of_ble_eq_true rfl) ⟨Nat.le_of_ble_eq_true rfl, Nat.le_of_ble_eq_true rfl⟩ ?_
                        have hf84_0 := hO.lF (show e < nE σ by omega)
                        refine lv_iload_n hx hb dX5_findsBlocks_87 rfl (lv_at hl 1 rfl) ?_
                        refine lv_iload hx hb dX5_findsBlocks_88 (lv_at hl 0 rfl) ?_
                        refine lv_icmp_ge (tgt := 97) hx hb dX5_findsBlocks_90 (by decide) (fun h90 => ?_) (fun h90 => ?_)
                        · skip
                          have h90 : (L' (sS σ e)) ≤ (L' (fS σ e)) := (nI_leI (by omega) (by omega)).mp h90
                          refine lv_iload hx hb dX5_findsBlocks_97 (lv_at hl 0 rfl) ?_
                          refine va_iast hx hb hG.1 hP hD hS 5 0 rfl rfl (vp_in_nI (n := fS σ e) (N := 36) (by omega) (by omega)) dX5_findsBlocks_99 (fun H locs hP hD hS => ?_)
                          rw [nI_clamp (show fS σ e < 2 ^ 31 by omega)] at hP hD
                          have hP : va_P G.1 vwCl (wM G m σ V ζ ns x len (upd g' (fS σ e) (nI (L' (sS σ e))))) H := hP
                          have hD : va_D (zA (wM G m σ V ζ ns x len B)) (wM G m σ V ζ ns x len (upd g' (fS σ e) (nI (L' (sS σ e))))) := hD
                          refine lv_aload_n hx hb dX5_findsBlocks_100 rfl (lv_at hl 2 rfl) ?_
                          refine va_get (D := G.1) (ci := 5) (v := .ref (m 5)) (C := RX5) (T := TX5) (N := 7) hx hb hts hinX5 hown hG.1 hP 0 rfl rfl 6 (by decide) hf22 (fun _ h9 => h9) rfl dX5_findsBlocks_101 ?_
                          refine lv_aload_n hx hb dX5_findsBlocks_104 rfl (lv_at hl 2 rfl) ?_
                          refine lv_iload_n hx hb dX5_findsBlocks_105 rfl (lv_at hl 4 rfl) ?_
                          refine zrdV (As := [.int (nI e)]) ⟨hx, hb, hml, hown, hts⟩ (kX5_secondOf l G m σ V ζ ns x len (upd g' (fS σ e) (nI (L' (sS σ e)))) e (hO) (by omega)) (cwV 1 hts gX5_findsBlocks_X5_secondOf rfl rfl rfl (by decide +kernel) ⟨Nat.le_of_ble_eq_true rfl, Nat.le_of_ble_eq_true rfl⟩) hG (va_recv (q0 := 0) (ci := 5) hG.1 hP rfl rfl) (hP) rfl rfl hl.1 dX5_findsBlocks_106 (Nat.le_of_ble_eq_true rfl) ⟨Nat.le_of_ble_eq_true rfl, Nat.le_of_ble_eq_true rfl⟩ ?_
                          have hf106_0 := hO.lF (show e < nE σ by omega)
                          refine lv_iload_n hx hb dX5_findsBlocks_109 rfl (lv_at hl 1 rfl) ?_
                          refine lv_iload hx hb dX5_findsBlocks_110 (lv_at hl 0 rfl) ?_
                          refine lv_icmp_ge (tgt := 119) hx hb dX5_findsBlocks_112 (by decide) (fun h112 => ?_) (fun h112 => ?_)
                          · skip
                            have h112 : (L' (sS σ e)) ≤ (L' (fS σ e)) := (nI_leI (by omega) (by omega)).mp h112
                            refine lv_iload hx hb dX5_findsBlocks_119 (lv_at hl 0 rfl) ?_
                            refine va_iast hx hb hG.1 hP hD hS 5 0 rfl rfl (vp_in_nI (n := sS σ e) (N := 36) (by omega) (by omega)) dX5_findsBlocks_121 (fun H locs hP hD hS => ?_)
                            rw [nI_clamp (show sS σ e < 2 ^ 31 by omega)] at hP hD
                            have hP : va_P G.1 vwCl (wM G m σ V ζ ns x len (upd (upd g' (fS σ e) (nI (L' (sS σ e)))) (sS σ e) (nI (L' (sS σ e))))) H := hP
                            have hD : va_D (zA (wM G m σ V ζ ns x len B)) (wM G m σ V ζ ns x len (upd (upd g' (fS σ e) (nI (L' (sS σ e)))) (sS σ e) (nI (L' (sS σ e))))) := hD
                            refine lv_iconst (v := nI 1) hx hb dX5_findsBlocks_122 (by decide) ?_
                            refine lv_istore_n (lv' := [(1, .int (nI 1)), (4, .int (nI (L' (sS σ e)))), (3, .int (nI (L' (fS σ e)))), (0, .ref (m 0)), (2, .int (nI e))]) hx hb dX5_findsBlocks_123 rfl hl (by decide) rfl (fun ls hl => ?_)
                            refine lv_iinc (v := nI (e + 1)) (lv' := [(2, .int (nI (e + 1))), (1, .int (nI 1)), (4, .int (nI (L' (sS σ e)))), (3, .int (nI (L' (fS σ e)))), (0, .ref (m 0))]) hx hb dX5_findsBlocks_124 hl (k := 4) rfl (zinc1 _) (by decide) rfl (fun ls hl => ?_)
                            refine lv_goto (tgt := 33) hx hb dX5_findsBlocks_127 (by decide) ?_
                            exact ih33 (e + 1) 1 (su (su L' (fS σ e) (L' (sS σ e))) (sS σ e) (L' (sS σ e))) (upd (upd g' (fS σ e) (nI (L' (sS σ e)))) (sS σ e) (nI (L' (sS σ e)))) ((hL'.join (v := L' (sS σ e)) (show e < nE σ by omega) h69 hfs.1 hfs.2 h75 (min_ite2 (by omega))).1) (fun j hj => by unfold upd su; split; rfl; split; rfl; exact hg' j hj) (fun j hj => by unfold upd; rw [if_neg (by omega), if_neg (by omega)]; exact hgr' j hj) (Or.inr ⟨rfl, by have z := (hL'.join (v := L' (sS σ e)) (show e < nE σ by omega) h69 hfs.1 hfs.2 h75 (min_ite2 (by omega))).2; rcases hcc with y | y; (rw [y.2.1] at z ⊢; exact z); exact Nat.lt_trans z y.2⟩) (by omega) (by omega) _ (lv_sub hl [4, 1, 0] rfl) _ _ (hP) (hD) hS
                          · skip
                            have h112 : ¬ ((L' (sS σ e)) ≤ (L' (fS σ e))) := fun q => h112 ((nI_leI (by omega) (by omega)).mpr q)
                            exfalso; omega
                        · skip
                          have h90 : ¬ ((L' (sS σ e)) ≤ (L' (fS σ e))) := fun q => h90 ((nI_leI (by omega) (by omega)).mpr q)
                          refine lv_iload_n hx hb dX5_findsBlocks_93 rfl (lv_at hl 1 rfl) ?_
                          refine lv_goto (tgt := 99) hx hb dX5_findsBlocks_94 (by decide) ?_
                          refine va_iast hx hb hG.1 hP hD hS 5 0 rfl rfl (vp_in_nI (n := fS σ e) (N := 36) (by omega) (by omega)) dX5_findsBlocks_99 (fun H locs hP hD hS => ?_)
                          rw [nI_clamp (show fS σ e < 2 ^ 31 by omega)] at hP hD
                          have hP : va_P G.1 vwCl (wM G m σ V ζ ns x len (upd g' (fS σ e) (nI (L' (fS σ e))))) H := hP
                          have hD : va_D (zA (wM G m σ V ζ ns x len B)) (wM G m σ V ζ ns x len (upd g' (fS σ e) (nI (L' (fS σ e))))) := hD
                          refine lv_aload_n hx hb dX5_findsBlocks_100 rfl (lv_at hl 2 rfl) ?_
                          refine va_get (D := G.1) (ci := 5) (v := .ref (m 5)) (C := RX5) (T := TX5) (N := 7) hx hb hts hinX5 hown hG.1 hP 0 rfl rfl 6 (by decide) hf22 (fun _ h9 => h9) rfl dX5_findsBlocks_101 ?_
                          refine lv_aload_n hx hb dX5_findsBlocks_104 rfl (lv_at hl 2 rfl) ?_
                          refine lv_iload_n hx hb dX5_findsBlocks_105 rfl (lv_at hl 4 rfl) ?_
                          refine zrdV (As := [.int (nI e)]) ⟨hx, hb, hml, hown, hts⟩ (kX5_secondOf l G m σ V ζ ns x len (upd g' (fS σ e) (nI (L' (fS σ e)))) e (hO) (by omega)) (cwV 1 hts gX5_findsBlocks_X5_secondOf rfl rfl rfl (by decide +kernel) ⟨Nat.le_of_ble_eq_true rfl, Nat.le_of_ble_eq_true rfl⟩) hG (va_recv (q0 := 0) (ci := 5) hG.1 hP rfl rfl) (hP) rfl rfl hl.1 dX5_findsBlocks_106 (Nat.le_of_ble_eq_true rfl) ⟨Nat.le_of_ble_eq_true rfl, Nat.le_of_ble_eq_true rfl⟩ ?_
                          have hf106_0 := hO.lF (show e < nE σ by omega)
                          refine lv_iload_n hx hb dX5_findsBlocks_109 rfl (lv_at hl 1 rfl) ?_
                          refine lv_iload hx hb dX5_findsBlocks_110 (lv_at hl 0 rfl) ?_
                          refine lv_icmp_ge (tgt := 119) hx hb dX5_findsBlocks_112 (by decide) (fun h112 => ?_) (fun h112 => ?_)
                          · skip
                            have h112 : (L' (sS σ e)) ≤ (L' (fS σ e)) := (nI_leI (by omega) (by omega)).mp h112
                            exfalso; omega
                          · skip
                            have h112 : ¬ ((L' (sS σ e)) ≤ (L' (fS σ e))) := fun q => h112 ((nI_leI (by omega) (by omega)).mpr q)
                            refine lv_iload_n hx hb dX5_findsBlocks_115 rfl (lv_at hl 1 rfl) ?_
                            refine lv_goto (tgt := 121) hx hb dX5_findsBlocks_116 (by decide) ?_
                            refine va_iast hx hb hG.1 hP hD hS 5 0 rfl rfl (vp_in_nI (n := sS σ e) (N := 36) (by omega) (by omega)) dX5_findsBlocks_121 (fun H locs hP hD hS => ?_)
                            rw [nI_clamp (show sS σ e < 2 ^ 31 by omega)] at hP hD
                            have hP : va_P G.1 vwCl (wM G m σ V ζ ns x len (upd (upd g' (fS σ e) (nI (L' (fS σ e)))) (sS σ e) (nI (L' (fS σ e))))) H := hP
                            have hD : va_D (zA (wM G m σ V ζ ns x len B)) (wM G m σ V ζ ns x len (upd (upd g' (fS σ e) (nI (L' (fS σ e)))) (sS σ e) (nI (L' (fS σ e))))) := hD
                            refine lv_iconst (v := nI 1) hx hb dX5_findsBlocks_122 (by decide) ?_
                            refine lv_istore_n (lv' := [(1, .int (nI 1)), (4, .int (nI (L' (sS σ e)))), (3, .int (nI (L' (fS σ e)))), (0, .ref (m 0)), (2, .int (nI e))]) hx hb dX5_findsBlocks_123 rfl hl (by decide) rfl (fun ls hl => ?_)
                            refine lv_iinc (v := nI (e + 1)) (lv' := [(2, .int (nI (e + 1))), (1, .int (nI 1)), (4, .int (nI (L' (sS σ e)))), (3, .int (nI (L' (fS σ e)))), (0, .ref (m 0))]) hx hb dX5_findsBlocks_124 hl (k := 4) rfl (zinc1 _) (by decide) rfl (fun ls hl => ?_)
                            refine lv_goto (tgt := 33) hx hb dX5_findsBlocks_127 (by decide) ?_
                            exact ih33 (e + 1) 1 (su (su L' (fS σ e) (L' (fS σ e))) (sS σ e) (L' (fS σ e))) (upd (upd g' (fS σ e) (nI (L' (fS σ e)))) (sS σ e) (nI (L' (fS σ e)))) ((hL'.join (v := L' (fS σ e)) (show e < nE σ by omega) h69 hfs.1 hfs.2 h75 (min_ite (by omega))).1) (fun j hj => by unfold upd su; split; rfl; split; rfl; exact hg' j hj) (fun j hj => by unfold upd; rw [if_neg (by omega), if_neg (by omega)]; exact hgr' j hj) (Or.inr ⟨rfl, by have z := (hL'.join (v := L' (fS σ e)) (show e < nE σ by omega) h69 hfs.1 hfs.2 h75 (min_ite (by omega))).2; rcases hcc with y | y; (rw [y.2.1] at z ⊢; exact z); exact Nat.lt_trans z y.2⟩) (by omega) (by omega) _ (lv_sub hl [4, 1, 0] rfl) _ _ (hP) (hD) hS
              exact loop33 (nE σ + 1) 0 0 L g (hL) (hg) (hgr) (Or.inl ⟨rfl, rfl, fun e2 he2 => absurd he2 (Nat.not_lt_zero e2)⟩) (by omega) (by omega) _ (lv_sub hl [2, 1, 0] rfl) _ _ (hP) (hD) hS
        exact loop25 (sm (fun k => k) (nS σ) + 2) 1 (fun k => k) g (fun k _ => ⟨Nat.le_refl k, fun _ _ => rfl⟩) (fun j hj => hg j (by omega)) (fun j hj => hgr j (by omega)) (Or.inl rfl) (by omega) _ (lv_sub hl [1, 0] rfl) _ _ (hP) (hD) hS
      · skip
        have h7 : ¬ ((nS σ) ≤ i) := fun q => h7 ((nI_leI (by omega) (by omega)).mpr q)
        refine lv_aload_n hx hb dX5_findsBlocks_10 rfl (lv_at hl 0 rfl) ?_
        refine va_get (D := G.1) (ci := 5) (v := .ref (m 5)) (C := RX5) (T := TX5) (N := 7) hx hb hts hinX5 hown hG.1 hP 0 rfl rfl 6 (by decide) hf22 (fun _ h9 => h9) rfl dX5_findsBlocks_11 ?_
        refine lv_iload_n hx hb dX5_findsBlocks_14 rfl (lv_at hl 1 rfl) ?_
        refine lv_iload_n hx hb dX5_findsBlocks_15 rfl (lv_at hl 1 rfl) ?_
        refine va_iast hx hb hG.1 hP hD hS 5 0 rfl rfl (vp_in_nI (n := i) (N := 36) (by omega) (by omega)) dX5_findsBlocks_16 (fun H locs hP hD hS => ?_)
        rw [nI_clamp (show i < 2 ^ 31 by omega)] at hP hD
        have hP : va_P G.1 vwCl (wM G m σ V ζ ns x len (upd g i (nI i))) H := hP
        have hD : va_D (zA (wM G m σ V ζ ns x len B)) (wM G m σ V ζ ns x len (upd g i (nI i))) := hD
        refine lv_iinc (v := nI (i + 1)) (lv' := [(1, .int (nI (i + 1))), (0, .ref (m 0))]) hx hb dX5_findsBlocks_17 hl (k := 1) rfl (zinc1 _) (by decide) rfl (fun ls hl => ?_)
        refine lv_goto (tgt := 2) hx hb dX5_findsBlocks_20 (by decide) ?_
        exact ih2 (i + 1) (upd g i (nI i)) (fun j hj => by unfold upd; split; (rename_i q; rw [q]); exact hg j (by omega)) (fun j hj => by unfold upd; rw [if_neg (by omega)]; exact hgr j (by omega)) (by omega) (by omega) _ (lv_sub hl [1, 0] rfl) _ _ (hP) (hD) hS
  exact loop2 (nS σ + 1) 0 B (fun j hj => absurd hj (Nat.not_lt_zero j)) (fun j _ => rfl) (by omega) (by omega) _ (lv_sub hl [1, 0] rfl) _ _ (hP) (hD) hS
set_option maxHeartbeats 4000000 in
set_option maxRecDepth 100000 in
theorem kX5_blockOf (l : Launch) (G : zG) (m : Nat → Nat) (σ : Nat → Nat) (V : Nat → Nat → Nat) (ζ : Nat → Nat) (ns : Nat) (x : Nat → Nat) (len : Nat) (B : Nat → Int32) {N : Nat} (k : Nat) (hO : Ok N σ) (hk : k < nS σ) (hd : va_D (fun _ => True) (wM G m σ V ζ ns x len B)) : Met l yX5_blockOf wsX5_blockOf (zRm 4 87) (zPc G [.ref (m 0), .int (nI k)] (va_P G.1 vwCl (wM G m σ V ζ ns x len B))) (zQ (zA (wM G m σ V ζ ns x len B)) (some (.int (nI (blk σ (nE σ) k)))) (va_P G.1 vwCl (wM G m σ V ζ ns x len (blF σ B)))) 0 0 (zA (wM G m σ V ζ ns x len B)) := by
  refine zmkWi (w := (wM G m σ V ζ ns x len B)) hd (cc := cX5_blockOf) (maxL := 2) (by decide) rfl (Nat.le_of_ble_eq_true rfl) ?_
  intro pr en st mi ar bl me cd ls Q hx hb hml hown hts hG hP hl hD hS hret
  have hown : st.vm.findClass RX5 = some mi.cls := hown
  have hl : lv_has ls 2 [(0, .ref (m 0)), (1, .int (nI k))] := hl
  have hP : va_P G.1 vwCl (wM G m σ V ζ ns x len B) st.heap := hP
  have hD : va_D (zA (wM G m σ V ζ ns x len B)) (wM G m σ V ζ ns x len B) := hD
  have hinX5 : ∀ w ∈ wsX50, w ∈ wsX5_blockOf := by decide +kernel
  have hf22 := hts (.fieldLink RX5 22 "MapSheetsModel" "block" "[I") (by decide +kernel)
  have hc := hO.c
  have hs := hO.lS
  have hr := hO.lR
  have hne := hO.lE
  refine lv_aload_n hx hb dX5_blockOf_0 rfl (lv_at hl 0 rfl) ?_
  refine zwrWv (G := G) (wc := (wM G m σ V ζ ns x len B)) (wc' := (wM G m σ V ζ ns x len (blF σ B))) (va_runV (As := []) (rest := []) ⟨hx, hb, hml, hown, hts⟩ (kX5_findsBlocks l G m σ V ζ ns x len B (hO) (zD_any hD)) (cwV 0 hts gX5_blockOf_X5_findsBlocks rfl rfl rfl (by decide +kernel) ⟨Nat.le_of_ble_eq_true rfl, Nat.le_of_ble_eq_true rfl⟩) (zPreV hG (va_recv (q0 := 0) (ci := 5) hG.1 hP rfl rfl) (hP)) rfl rfl hl.1 rfl (lv_room (Nat.le_of_ble_eq_true rfl)) dX5_blockOf_1 ⟨Nat.le_of_ble_eq_true rfl, Nat.le_of_ble_eq_true rfl⟩) hP hD hS (wM_map ..) (fun H locs hP hD hS => ?_)
  have hP : va_P G.1 vwCl (wM G m σ V ζ ns x len (blF σ B)) H := hP
  have hD : va_D (zA (wM G m σ V ζ ns x len B)) (wM G m σ V ζ ns x len (blF σ B)) := hD
  refine lv_aload_n hx hb dX5_blockOf_4 rfl (lv_at hl 0 rfl) ?_
  refine va_get (D := G.1) (ci := 5) (v := .ref (m 5)) (C := RX5) (T := TX5) (N := 7) hx hb hts hinX5 hown hG.1 hP 0 rfl rfl 6 (by decide) hf22 (fun _ h9 => h9) rfl dX5_blockOf_5 ?_
  refine lv_iload_n hx hb dX5_blockOf_8 rfl (lv_at hl 1 rfl) ?_
  refine va_iald hx hb hG.1 hP 5 0 rfl rfl (vp_in_nI (n := k) (N := 36) (by omega) (by omega)) dX5_blockOf_9 ?_
  refine lv_topi (nm_r (e' := (blF σ B) k) (by rw [nI_clamp (by omega)]) ?_)
  refine lv_topi (nm_r (e' := nI (blk σ (nE σ) k)) (blF_at hk) ?_)
  exact hret _ _ _ _ _ dX5_blockOf_10 hS (hP) (congrArg nI (rfl))
set_option maxHeartbeats 4000000 in
set_option maxRecDepth 100000 in
theorem kX5_blocks (l : Launch) (G : zG) (m : Nat → Nat) (σ : Nat → Nat) (V : Nat → Nat → Nat) (ζ : Nat → Nat) (ns : Nat) (x : Nat → Nat) (len : Nat) (B : Nat → Int32) {N : Nat}  (hO : Ok N σ) (hd : va_D (fun _ => True) (wM G m σ V ζ ns x len B)) : Met l yX5_blocks wsX5_blocks (zRm 4 87) (zPc G [.ref (m 0)] (va_P G.1 vwCl (wM G m σ V ζ ns x len B))) (zQ (zA (wM G m σ V ζ ns x len B)) (some (.int (nI (fnd σ (nE σ))))) (va_P G.1 vwCl (wM G m σ V ζ ns x len (blF σ B)))) 0 0 (zA (wM G m σ V ζ ns x len B)) := by
  refine zmkWi (w := (wM G m σ V ζ ns x len B)) hd (cc := cX5_blocks) (maxL := 3) (by decide) rfl (Nat.le_of_ble_eq_true rfl) ?_
  intro pr en st mi ar bl me cd ls Q hx hb hml hown hts hG hP hl hD hS hret
  have hown : st.vm.findClass RX5 = some mi.cls := hown
  have hl : lv_has ls 3 [(0, .ref (m 0))] := hl
  have hP : va_P G.1 vwCl (wM G m σ V ζ ns x len B) st.heap := hP
  have hD : va_D (zA (wM G m σ V ζ ns x len B)) (wM G m σ V ζ ns x len B) := hD
  have hinX5 : ∀ w ∈ wsX50, w ∈ wsX5_blocks := by decide +kernel
  have hf22 := hts (.fieldLink RX5 22 "MapSheetsModel" "block" "[I") (by decide +kernel)
  have hc := hO.c
  have hs := hO.lS
  have hr := hO.lR
  have hne := hO.lE
  refine lv_aload_n hx hb dX5_blocks_0 rfl (lv_at hl 0 rfl) ?_
  refine zwrWv (G := G) (wc := (wM G m σ V ζ ns x len B)) (wc' := (wM G m σ V ζ ns x len (blF σ B))) (va_runV (As := []) (rest := []) ⟨hx, hb, hml, hown, hts⟩ (kX5_findsBlocks l G m σ V ζ ns x len B (hO) (zD_any hD)) (cwV 0 hts gX5_blocks_X5_findsBlocks rfl rfl rfl (by decide +kernel) ⟨Nat.le_of_ble_eq_true rfl, Nat.le_of_ble_eq_true rfl⟩) (zPreV hG (va_recv (q0 := 0) (ci := 5) hG.1 hP rfl rfl) (hP)) rfl rfl hl.1 rfl (lv_room (Nat.le_of_ble_eq_true rfl)) dX5_blocks_1 ⟨Nat.le_of_ble_eq_true rfl, Nat.le_of_ble_eq_true rfl⟩) hP hD hS (wM_map ..) (fun H locs hP hD hS => ?_)
  have hP : va_P G.1 vwCl (wM G m σ V ζ ns x len (blF σ B)) H := hP
  have hD : va_D (zA (wM G m σ V ζ ns x len B)) (wM G m σ V ζ ns x len (blF σ B)) := hD
  refine lv_iconst (v := nI 0) hx hb dX5_blocks_4 (by decide) ?_
  refine lv_istore_n (lv' := [(1, .int (nI 0)), (0, .ref (m 0))]) hx hb dX5_blocks_5 rfl hl (by decide) rfl (fun ls hl => ?_)
  refine lv_iconst (v := nI 0) hx hb dX5_blocks_6 (by decide) ?_
  refine lv_istore_n (lv' := [(2, .int (nI 0)), (1, .int (nI 0)), (0, .ref (m 0))]) hx hb dX5_blocks_7 rfl hl (by decide) rfl (fun ls hl => ?_)
  have loop8 : ∀ (n : Nat) (i : Nat) (xx : Nat) (hxx : xx = sm (fun k => if blk σ (nE σ) k = k then 1 else 0) i) (hi : i ≤ nS σ) (hn : nS σ < i + n) (ls : Array Slot) (hl : lv_has ls 3 [(0, .ref (m 0)), (1, .int (nI xx)), (2, .int (nI i))]) (H : Heap) (locs : List Loc) (hP : va_P G.1 vwCl (wM G m σ V ζ ns x len (blF σ B)) H) (hD : va_D (zA (wM G m σ V ζ ns x len B)) (wM G m σ V ζ ns x len (blF σ B))) (hS : va_S (zA (wM G m σ V ζ ns x len B)) st.heap H locs), W pr l en (zRm 4 87) st mi ar bl me cd H locs 0 0 Q (F0 mi 8 ls []) := by
    intro n
    induction n with
    | zero => intro i xx hxx hi hn ls hl H locs hP hD hS; exfalso; omega
    | succ n ih8 =>
      intro i xx hxx hi hn ls hl H locs hP hD hS
      refine lv_iload_n hx hb dX5_blocks_8 rfl (lv_at hl 2 rfl) ?_
      refine lv_aload_n hx hb dX5_blocks_9 rfl (lv_at hl 0 rfl) ?_
      refine zrdV (As := []) ⟨hx, hb, hml, hown, hts⟩ (kX5_sheets l G m σ V ζ ns x len (blF σ B) ) (cwV 0 hts gX5_blocks_X5_sheets rfl rfl rfl (by decide +kernel) ⟨Nat.le_of_ble_eq_true rfl, Nat.le_of_ble_eq_true rfl⟩) hG (va_recv (q0 := 0) (ci := 5) hG.1 hP rfl rfl) (hP) rfl rfl hl.1 dX5_blocks_10 (Nat.le_of_ble_eq_true rfl) ⟨Nat.le_of_ble_eq_true rfl, Nat.le_of_ble_eq_true rfl⟩ ?_
      refine lv_icmp_ge (tgt := 40) hx hb dX5_blocks_13 (by decide) (fun h13 => ?_) (fun h13 => ?_)
      · skip
        have h13 : (nS σ) ≤ i := (nI_leI (by omega) (by omega)).mp h13
        refine lv_iload_n hx hb dX5_blocks_40 rfl (lv_at hl 1 rfl) ?_
        exact hret _ _ _ _ _ dX5_blocks_41 hS (hP) (congrArg nI (by rw [fnd_eq hO (nE σ) (Nat.le_refl _)]; obtain rfl : i = nS σ := (by omega); exact hxx))
      · skip
        have h13 : ¬ ((nS σ) ≤ i) := fun q => h13 ((nI_leI (by omega) (by omega)).mpr q)
        have hbl := blk_le σ (nE σ) i
        refine lv_iload_n hx hb dX5_blocks_16 rfl (lv_at hl 1 rfl) ?_
        refine lv_aload_n hx hb dX5_blocks_17 rfl (lv_at hl 0 rfl) ?_
        refine va_get (D := G.1) (ci := 5) (v := .ref (m 5)) (C := RX5) (T := TX5) (N := 7) hx hb hts hinX5 hown hG.1 hP 0 rfl rfl 6 (by decide) hf22 (fun _ h9 => h9) rfl dX5_blocks_18 ?_
        refine lv_iload_n hx hb dX5_blocks_21 rfl (lv_at hl 2 rfl) ?_
        refine va_iald hx hb hG.1 hP 5 0 rfl rfl (vp_in_nI (n := i) (N := 36) (by omega) (by omega)) dX5_blocks_22 ?_
        refine lv_topi (nm_r (e' := (blF σ B) i) (by rw [nI_clamp (by omega)]) ?_)
        refine lv_topi (nm_r (e' := nI (blk σ (nE σ) i)) (blF_at (by omega)) ?_)
        refine lv_iload_n hx hb dX5_blocks_23 rfl (lv_at hl 2 rfl) ?_
        refine lv_icmp_ne (tgt := 31) hx hb dX5_blocks_24 (by decide) (fun h24 => ?_) (fun h24 => ?_)
        · skip
          have h24 : ¬ ((blk σ (nE σ) i) = i) := fun q => h24 ((nI_eq (by omega) (by omega)).mpr q)
          refine lv_iconst (v := nI 0) hx hb dX5_blocks_31 (by decide) ?_
          refine lv_iadd hx hb dX5_blocks_32 ?_
          refine lv_topi (nm_r (e' := nI (xx + 0)) (nI_add _ _) ?_)
          refine lv_istore_n (lv' := [(1, .int (nI (xx + 0))), (0, .ref (m 0)), (2, .int (nI i))]) hx hb dX5_blocks_33 rfl hl (by decide) rfl (fun ls hl => ?_)
          refine lv_iinc (v := nI (i + 1)) (lv' := [(2, .int (nI (i + 1))), (1, .int (nI (xx + 0))), (0, .ref (m 0))]) hx hb dX5_blocks_34 hl (k := 2) rfl (zinc1 _) (by decide) rfl (fun ls hl => ?_)
          refine lv_goto (tgt := 8) hx hb dX5_blocks_37 (by decide) ?_
          exact ih8 (i + 1) (xx + 0) (by rw [sm, ← hxx]; try (simp [h13, h24] <;> omega)) (by omega) (by omega) _ (lv_sub hl [2, 1, 0] rfl) _ _ (hP) (hD) hS
        · skip
          have h24 : (blk σ (nE σ) i) = i := (nI_eq (by omega) (by omega)).mp h24
          refine lv_iconst (v := nI 1) hx hb dX5_blocks_27 (by decide) ?_
          refine lv_goto (tgt := 32) hx hb dX5_blocks_28 (by decide) ?_
          refine lv_iadd hx hb dX5_blocks_32 ?_
          refine lv_topi (nm_r (e' := nI (xx + 1)) (nI_add _ _) ?_)
          refine lv_istore_n (lv' := [(1, .int (nI (xx + 1))), (0, .ref (m 0)), (2, .int (nI i))]) hx hb dX5_blocks_33 rfl hl (by decide) rfl (fun ls hl => ?_)
          refine lv_iinc (v := nI (i + 1)) (lv' := [(2, .int (nI (i + 1))), (1, .int (nI (xx + 1))), (0, .ref (m 0))]) hx hb dX5_blocks_34 hl (k := 2) rfl (zinc1 _) (by decide) rfl (fun ls hl => ?_)
          refine lv_goto (tgt := 8) hx hb dX5_blocks_37 (by decide) ?_
          exact ih8 (i + 1) (xx + 1) (by rw [sm, ← hxx]; try (simp [h13, h24] <;> omega)) (by omega) (by omega) _ (lv_sub hl [2, 1, 0] rfl) _ _ (hP) (hD) hS
  exact loop8 (nS σ + 1) 0 0 (rfl) (by omega) (by omega) _ (lv_sub hl [2, 1, 0] rfl) _ _ (hP) (hD) hS
