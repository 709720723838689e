theorem arrV_ext {c : ClassId} {n : Nat} {F K : Nat → Value} (h : ∀ j, j < n → F j = K j) : arrV c n F = arrV c n K := by
  unfold arrV
  congr 1
  congr 1
  funext j
  exact h j.val j.isLt
theorem zcell_ext {D : va_G} {cl : List vw_C} {q : Nat} {c : ClassId} {n : Nat} {f g : Nat → Int32} {H : Heap} (h : ∀ j, j < n → f j = g j) (hP : va_P D cl [(q, .inl (c, n, .inl f))] H) : va_P D cl [(q, .inl (c, n, .inl g))] H := by
  intro k x hk
  have hk0 : k = 0 := by
    have := (List.getElem?_eq_some_iff.mp hk).1
    simp at this
    omega
  subst hk0
  cases hk
  have h0 : H[q]? = some (vp_cell c (n, .inl f)) := hP 0 _ rfl
  show H[q]? = some (vp_cell c (n, .inl g))
  rw [h0, vp_cell_i, vp_cell_i]
  exact congrArg some (arrV_ext (F := fun j => .int (f j)) (K := fun j => .int (g j)) (fun j hj => by show Value.int (f j) = .int (g j); rw [h j hj]))
theorem zP_ext {D : va_G} {cl : List vw_C} {w1 w2 : va_W} {q : Nat} {c : ClassId} {n : Nat} {f g : Nat → Int32} {H : Heap} (h : ∀ j, j < n → f j = g j) (hP : va_P D cl (w1 ++ ([(q, .inl (c, n, .inl f))] ++ w2)) H) : va_P D cl (w1 ++ ([(q, .inl (c, n, .inl g))] ++ w2)) H :=
  va_P.app (zP_l hP) (va_P.app (zcell_ext h (zP_m hP)) (zP_r (zP_r hP)))
set_option maxHeartbeats 4000000 in
set_option maxRecDepth 100000 in
theorem kJ7_fill_53178 (l : Launch) (G : zG) (n : Nat) (f : Nat → Int32) (q : Nat) (v : Int32) (hn : n < 2 ^ 31) (hd : va_D (fun _ => True) [(q, .inl (G.2.1, n, .inl f))]) : Met l yJ7_fill_53178 wsJ7_fill_53178 (zRm 0 0) (zPc G [.ref q, .int v] (va_P G.1 vwCl [(q, .inl (G.2.1, n, .inl f))])) (zQ (zA [(q, .inl (G.2.1, n, .inl f))]) none (va_P G.1 vwCl [(q, .inl (G.2.1, n, .inl (fun _ => v)))])) 0 0 (zA [(q, .inl (G.2.1, n, .inl f))]) := by
  refine zmkWv (w := [(q, .inl (G.2.1, n, .inl f))]) hd (cc := cJ7_fill_53178) (maxL := 4) (by decide) rfl (Nat.le_of_ble_eq_true rfl) ?_
  intro pr en st mi ar bl me cd ls Q hx hb hml hown hts hG hP hl hD hS hret
  have hown : st.vm.findClass RJ7 = some mi.cls := hown
  have hl : lv_has ls 4 [(0, .ref q), (1, .int v)] := hl
  have hP : va_P G.1 vwCl [(q, .inl (G.2.1, n, .inl f))] st.heap := hP
  have hD : va_D (zA [(q, .inl (G.2.1, n, .inl f))]) [(q, .inl (G.2.1, n, .inl f))] := hD
  refine lv_iconst (v := nI 0) hx hb dJ7_fill_53178_0 (by decide) ?_
  refine lv_istore_n (lv' := [(2, .int (nI 0)), (0, .ref q), (1, .int v)]) hx hb dJ7_fill_53178_1 rfl hl (by decide) rfl (fun ls hl => ?_)
  refine lv_aload_n hx hb dJ7_fill_53178_2 rfl (lv_at hl 1 rfl) ?_
  refine va_alen (v := nI n) hx hb hG.1 hP 0 0 rfl rfl rfl dJ7_fill_53178_3 ?_
  refine lv_istore_n (lv' := [(3, .int (nI n)), (2, .int (nI 0)), (0, .ref q), (1, .int v)]) hx hb dJ7_fill_53178_4 rfl hl (by decide) rfl (fun ls hl => ?_)
  have loop5 : ∀ (k : Nat) (i : Nat) (g : Nat → Int32) (hg : ∀ j, j < i → g j = v) (hi : i ≤ n) (hm : n < i + k) (ls : Array Slot) (hl : lv_has ls 4 [(0, .ref q), (1, .int v), (2, .int (nI i)), (3, .int (nI n))]) (H : Heap) (locs : List Loc) (hP : va_P G.1 vwCl [(q, .inl (G.2.1, n, .inl g))] H) (hD : va_D (zA [(q, .inl (G.2.1, n, .inl f))]) [(q, .inl (G.2.1, n, .inl g))]) (hS : va_S (zA [(q, .inl (G.2.1, n, .inl f))]) st.heap H locs), W pr l en (zRm 0 0) st mi ar bl me cd H locs 0 0 Q (F0 mi 5 ls []) := by
    intro k
    induction k with
    | zero => intro i g hg hi hm ls hl H locs hP hD hS; exfalso; omega
    | succ k ih =>
      intro i g hg hi hm ls hl H locs hP hD hS
      refine lv_iload_n hx hb dJ7_fill_53178_5 rfl (lv_at hl 2 rfl) ?_
      refine lv_iload_n hx hb dJ7_fill_53178_6 rfl (lv_at hl 3 rfl) ?_
      refine lv_icmp_ge (tgt := 20) hx hb dJ7_fill_53178_7 (by decide) (fun h7 => ?_) (fun h7 => ?_)
      · skip
        have h7 : n ≤ i := (nI_leI (by omega) (by omega)).mp h7
        exact hret _ _ _ _ dJ7_fill_53178_20 hS (zcell_ext (fun j hj => hg j (by omega)) hP)
      · skip
        have h7 : ¬ (n ≤ i) := fun q => h7 ((nI_leI (by omega) (by omega)).mpr q)
        refine lv_aload_n hx hb dJ7_fill_53178_10 rfl (lv_at hl 0 rfl) ?_
        refine lv_iload_n hx hb dJ7_fill_53178_11 rfl (lv_at hl 2 rfl) ?_
        refine lv_iload_n hx hb dJ7_fill_53178_12 rfl (lv_at hl 1 rfl) ?_
        refine va_iast hx hb hG.1 hP hD hS 0 0 rfl rfl (vp_in_nI (n := i) (N := n) (by omega) (by omega)) dJ7_fill_53178_13 (fun H locs hP hD hS => ?_)
        rw [nI_clamp (show i < 2 ^ 31 by omega)] at hP hD
        have hP : va_P G.1 vwCl [(q, .inl (G.2.1, n, .inl (upd g i v)))] H := hP
        have hD : va_D (zA [(q, .inl (G.2.1, n, .inl f))]) [(q, .inl (G.2.1, n, .inl (upd g i v)))] := hD
        refine lv_iinc (v := nI (i + 1)) (lv' := [(2, .int (nI (i + 1))), (0, .ref q), (1, .int v), (3, .int (nI n))]) hx hb dJ7_fill_53178_14 hl (k := 2) rfl (zinc1 _) (by decide) rfl (fun ls hl => ?_)
        refine lv_goto (tgt := 5) hx hb dJ7_fill_53178_17 (by decide) ?_
        exact ih (i + 1) (upd g i v) (fun j hj => by unfold upd; split; rfl; exact hg j (by omega)) (by omega) (by omega) _ (lv_sub hl [1, 2, 0, 3] rfl) _ _ (hP) (hD) hS
  exact loop5 (n + 1) 0 f (fun j hj => absurd hj (Nat.not_lt_zero j)) (by omega) (by omega) _ (lv_sub hl [2, 3, 1, 0] rfl) _ _ (hP) (hD) hS
set_option maxHeartbeats 4000000 in
set_option maxRecDepth 100000 in
theorem kX4_copyRow (l : Launch) (G : zG) (n : Nat) (f g : Nat → Int32) (q : Nat) (q2 : Nat) (hn : n < 2 ^ 31) (hd : va_D (fun _ => True) [(q, .inl (G.2.1, n, .inl f)), (q2, .inl (G.2.1, n, .inl g))]) : Met l yX4_copyRow wsX4_copyRow (zRm 1 40) (zPc G [.ref q, .ref q2] (va_P G.1 vwCl [(q, .inl (G.2.1, n, .inl f)), (q2, .inl (G.2.1, n, .inl g))])) (zQ (zA [(q, .inl (G.2.1, n, .inl f)), (q2, .inl (G.2.1, n, .inl g))]) none (va_P G.1 vwCl [(q, .inl (G.2.1, n, .inl f)), (q2, .inl (G.2.1, n, .inl f))])) 0 0 (zA [(q, .inl (G.2.1, n, .inl f)), (q2, .inl (G.2.1, n, .inl g))]) := by
  refine zmkWv (w := [(q, .inl (G.2.1, n, .inl f)), (q2, .inl (G.2.1, n, .inl g))]) hd (cc := cX4_copyRow) (maxL := 2) (by decide) rfl (Nat.le_of_ble_eq_true rfl) ?_
  intro pr en st mi ar bl me cd ls Q hx hb hml hown hts hG hP hl hD hS hret
  have hown : st.vm.findClass RX4 = some mi.cls := hown
  have hl : lv_has ls 2 [(0, .ref q), (1, .ref q2)] := hl
  have hP : va_P G.1 vwCl [(q, .inl (G.2.1, n, .inl f)), (q2, .inl (G.2.1, n, .inl g))] st.heap := hP
  have hD : va_D (zA [(q, .inl (G.2.1, n, .inl f)), (q2, .inl (G.2.1, n, .inl g))]) [(q, .inl (G.2.1, n, .inl f)), (q2, .inl (G.2.1, n, .inl g))] := hD
  refine lv_aload_n hx hb dX4_copyRow_0 rfl (lv_at hl 0 rfl) ?_
  refine va_alen (v := nI n) hx hb hG.1 hP 0 0 rfl rfl rfl dX4_copyRow_1 ?_
  refine lv_aload_n hx hb dX4_copyRow_2 rfl (lv_at hl 1 rfl) ?_
  refine va_alen (v := nI n) hx hb hG.1 hP 1 0 rfl rfl rfl dX4_copyRow_3 ?_
  refine lv_icmp_ne (tgt := 16) hx hb dX4_copyRow_4 (by decide) (fun h4 => ?_) (fun h4 => ?_)
  · skip
    have h4 : ¬ (n = n) := fun q => h4 ((nI_eq (by omega) (by omega)).mpr q)
    exact absurd rfl h4
  · skip
    have h4 : n = n := (nI_eq (by omega) (by omega)).mp h4
    refine lv_aload_n hx hb dX4_copyRow_7 rfl (lv_at hl 0 rfl) ?_
    refine lv_iconst (v := nI 0) hx hb dX4_copyRow_8 (by decide) ?_
    refine lv_aload_n hx hb dX4_copyRow_9 rfl (lv_at hl 1 rfl) ?_
    refine lv_iconst (v := nI 0) hx hb dX4_copyRow_10 (by decide) ?_
    refine lv_aload_n hx hb dX4_copyRow_11 rfl (lv_at hl 0 rfl) ?_
    refine va_alen (v := nI n) hx hb hG.1 hP 0 0 rfl rfl rfl dX4_copyRow_12 ?_
    have hz : (nI 0).toNatClampNeg = 0 := nI_clamp (by omega)
    have hzn : (nI n).toNatClampNeg = n := nI_clamp (by omega)
    refine va_copyi hx hb (hml.trans hl.1.symm) hown (hts _ (List.mem_cons_of_mem _ (List.mem_of_getElem? (i := 0) rfl))) (hts _ (List.mem_cons_of_mem _ (List.mem_of_getElem? (i := 1) rfl))) (hts _ (List.mem_cons_of_mem _ (List.mem_of_getElem? (i := 2) rfl))) (hts _ (List.mem_cons_of_mem _ (List.mem_of_getElem? (i := 3) rfl))) hG.1 hP hD hS 0 1 0 0 rfl rfl rfl rfl rfl (nI_pos (by omega)) (nI_pos (by omega)) (nI_pos (by omega)) (by rw [hz, hzn]; omega) (by rw [hz, hzn]; omega) (fun i _ => rfl) (Nat.le_of_ble_eq_true rfl) (Nat.le_of_ble_eq_true rfl) dX4_copyRow_13 (fun H locs hP hD hS => ?_)
    rw [hz, hzn] at hP
    have hP : va_P G.1 vwCl ([(q, .inl (G.2.1, n, .inl f))] ++ ([(q2, .inl (G.2.1, n, .inl (va_cpy f g 0 0 n)))] ++ [])) H := hP
    exact hret _ _ _ _ dX4_copyRow_16 hS (zP_ext (w1 := [(q, .inl (G.2.1, n, .inl f))]) (w2 := []) (fun j hj => by rw [pk_cpy_in (Nat.zero_le j) (by omega)]; congr 1; omega) hP)
