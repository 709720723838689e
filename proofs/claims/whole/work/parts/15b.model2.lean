theorem zc4_eq {p r : Nat} (hp : p ≤ 2 ^ 31) (hr : r < 2 ^ 31) : zc4 p = nI r ↔ p = r + 1 := by
  unfold zc4
  by_cases q : p = 0
  · rw [if_pos q]
    exact ⟨fun z => absurd z.symm (z_m4 hr), fun z => by omega⟩
  · rw [if_neg q, nI_eq (by omega) hr]
    omega
theorem zc4_m4 {p : Nat} (hp : p ≤ 2 ^ 31) : zc4 p = (-4) ↔ p = 0 := by
  unfold zc4
  by_cases q : p = 0
  · rw [if_pos q]; exact ⟨fun _ => q, fun _ => rfl⟩
  · rw [if_neg q]
    exact ⟨fun z => absurd z (z_m4 (by omega)), fun z => absurd z q⟩
theorem z_rng {c : Nat} (h : c < 2 ^ 31) : (nI 48 ≤ nI c ∧ nI c ≤ nI 57) ↔ (48 ≤ c ∧ c ≤ 57) := by
  rw [nI_leI (by omega) h, nI_leI h (by omega)]
theorem z_not {c d : Prop} {hd : Decidable c} (h : c ↔ d) : (if c then (1 : Int32) else 0) = 0 ↔ ¬ d := by
  rw [z_b0, h]
/-- the reference's cells, changed -/
theorem wM_s {G : zG} {m : Nat → Nat} {σ' : Nat → Nat} {V' : Nat → Nat → Nat} {ζ' : Nat → Nat} {n : Nat} {x : Nat → Nat} {len : Nat} {B B' : Nat → Int32} {H : Heap} {f : Nat → Int32} {g : Nat → Int32} {h : Nat → Int32} (hs : ∀ j, j < 1972 → f j = sF σ' j) (hv : ∀ j, j < 7888 → g j = wF V' j) (hz : ∀ j, j < 1972 → h j = sF ζ' j) (hB : ∀ j, j < 36 → B j = B' j)
    (hP : va_P G.1 vwCl [(m 0, .inr (5, [.ref (m 1), .ref (m 2), .ref (m 3), .int (nI n), .ref (m 4), .int (nI len), .ref (m 5)])), (m 1, .inl (G.2.1, 1972, .inl f)), (m 2, .inl (G.2.1, 7888, .inl g)), (m 3, .inl (G.2.1, 1972, .inl h)), (m 4, .inl (G.2.1, 100, .inl (fun i => nI (x i)))), (m 5, .inl (G.2.1, 36, .inl B))] H) :
    va_P G.1 vwCl (wM G m σ' V' ζ' n x len B') H := by
  obtain ⟨p0, hP⟩ := zP_cons.mp hP
  obtain ⟨p1, hP⟩ := zP_cons.mp hP
  obtain ⟨p2, hP⟩ := zP_cons.mp hP
  obtain ⟨p3, hP⟩ := zP_cons.mp hP
  obtain ⟨p4, hP⟩ := zP_cons.mp hP
  obtain ⟨p5, hP⟩ := zP_cons.mp hP
  exact zP_cons.mpr ⟨p0, zP_cons.mpr ⟨zat_ext hs p1, zP_cons.mpr ⟨zat_ext hv p2, zP_cons.mpr ⟨zat_ext hz p3, zP_cons.mpr ⟨p4, zP_cons.mpr ⟨zat_ext hB p5, hP⟩⟩⟩⟩⟩⟩
def updv (V : Nat → Nat → Nat) (n : Nat) (ζ : Nat → Nat) : Nat → Nat → Nat := fun i => if n < 4 then (if i = n then ζ else V i) else if i = 3 then ζ else V (i + 1)
set_option maxHeartbeats 4000000 in
set_option maxRecDepth 100000 in
theorem kX5_isUpToDate (l : Launch) (G : zG) (m : Nat → Nat) (σ : Nat → Nat) (V : Nat → Nat → Nat) (ζ : Nat → Nat) (ns : Nat) (x : Nat → Nat) (len : Nat) (B : Nat → Int32) {N : Nat} (k : Nat) (hO : Ok N σ) (hk : k < 36) : Met l yX5_isUpToDate wsX5_isUpToDate (zRm 1 22) (zPc G [.ref (m 0), .int (nI k)] (va_P G.1 vwCl (wM G m σ V ζ ns x len B))) (zS (.int (if pbn σ k = rvn σ k + 1 then 1 else 0))) 0 0 (fun _ => False) := by
  refine zmkZ (cc := cX5_isUpToDate) (maxL := 2) (by decide) rfl (Nat.le_of_ble_eq_true rfl) ?_
  intro pr en st mi ar bl me cd ls Q hx hb hml hown hts hG hP hl hret
  have hown : st.vm.findClass RX5 = some mi.cls := hown
  have hl : lv_has ls 2 [(0, .ref (m 0)), (1, .int (nI k))] := hl
  have hP : va_P G.1 vwCl (wM G m σ V ζ ns x len B) st.heap := hP
  have hc := hO.c
  have hs := hO.lS
  have hr := hO.lR
  have hne := hO.lE
  have hpb := hO.pb (show k < 36 by omega)
  have hrv := hO.rv (show k < 36 by omega)
  have hN := hO.N
  refine lv_aload_n hx hb dX5_isUpToDate_0 rfl (lv_at hl 0 rfl) ?_
  refine lv_iload_n hx hb dX5_isUpToDate_1 rfl (lv_at hl 1 rfl) ?_
  refine lv_bipush (v := nI 51) hx hb dX5_isUpToDate_2 (by decide) ?_
  refine zrdV (As := [.int (nI k), .int (nI 51)]) ⟨hx, hb, hml, hown, hts⟩ (kX5_of_p l G m σ V ζ ns x len B k (by omega)) (cwV 2 hts gX5_isUpToDate_X5_of rfl rfl rfl (by decide +kernel) ⟨Nat.le_of_ble_eq_true rfl, Nat.le_of_ble_eq_true rfl⟩) hG (va_recv (q0 := 0) (ci := 5) hG.1 hP rfl rfl) (hP) rfl rfl hl.1 dX5_isUpToDate_4 (Nat.le_of_ble_eq_true rfl) ⟨Nat.le_of_ble_eq_true rfl, Nat.le_of_ble_eq_true rfl⟩ ?_
  refine lv_aload_n hx hb dX5_isUpToDate_7 rfl (lv_at hl 0 rfl) ?_
  refine lv_iload_n hx hb dX5_isUpToDate_8 rfl (lv_at hl 1 rfl) ?_
  refine lv_bipush (v := nI 50) hx hb dX5_isUpToDate_9 (by decide) ?_
  refine zrdV (As := [.int (nI k), .int (nI 50)]) ⟨hx, hb, hml, hown, hts⟩ (kX5_of l G m σ V ζ ns x len B k 50 (by omega) (by omega) (by omega)) (cwV 2 hts gX5_isUpToDate_X5_of rfl rfl rfl (by decide +kernel) ⟨Nat.le_of_ble_eq_true rfl, Nat.le_of_ble_eq_true rfl⟩) hG (va_recv (q0 := 0) (ci := 5) hG.1 hP rfl rfl) (hP) rfl rfl hl.1 dX5_isUpToDate_11 (Nat.le_of_ble_eq_true rfl) ⟨Nat.le_of_ble_eq_true rfl, Nat.le_of_ble_eq_true rfl⟩ ?_
  refine lv_topi (nm_r (e' := nI (rvn σ k)) (by unfold rvn; rw [show 114 + 53 * k = 64 + 53 * k + 50 by omega]) ?_)
  refine lv_icmp_ne (tgt := 21) hx hb dX5_isUpToDate_14 (by decide) (fun h14 => ?_) (fun h14 => ?_)
  · skip
    have h14 : ¬ (pbn σ k = rvn σ k + 1) := fun q => h14 ((zc4_eq (by omega) (by omega)).mpr q)
    refine lv_iconst (v := nI 0) hx hb dX5_isUpToDate_21 (by decide) ?_
    exact hret _ _ _ dX5_isUpToDate_22 (z_f (h14))
  · skip
    have h14 : pbn σ k = rvn σ k + 1 := (zc4_eq (by omega) (by omega)).mp h14
    refine lv_iconst (v := nI 1) hx hb dX5_isUpToDate_17 (by decide) ?_
    refine lv_goto (tgt := 22) hx hb dX5_isUpToDate_18 (by decide) ?_
    exact hret _ _ _ dX5_isUpToDate_22 (z_t (h14))
set_option maxHeartbeats 4000000 in
set_option maxRecDepth 100000 in
theorem kX5_published_0 (l : Launch) (G : zG) (m : Nat → Nat) (σ : Nat → Nat) (V : Nat → Nat → Nat) (ζ : Nat → Nat) (ns : Nat) (x : Nat → Nat) (len : Nat) (B : Nat → Int32) {N : Nat}  (hO : Ok N σ) : Met l yX5_published wsX5_published (zRm 2 43) (zPc G [.ref (m 0), .int (nI 0)] (va_P G.1 vwCl (wM G m σ V ζ ns x len B))) (zS (.int (nI (pbS σ)))) 0 0 (fun _ => False) := by
  refine zmkI (cc := cX5_published) (maxL := 4) (by decide) rfl (Nat.le_of_ble_eq_true rfl) ?_
  intro pr en st mi ar bl me cd ls Q hx hb hml hown hts hG hP hl hret
  have hown : st.vm.findClass RX5 = some mi.cls := hown
  have hl : lv_has ls 4 [(0, .ref (m 0)), (1, .int (nI 0))] := hl
  have hP : va_P G.1 vwCl (wM G m σ V ζ ns x len B) st.heap := hP
  have hc := hO.c
  have hs := hO.lS
  have hr := hO.lR
  have hne := hO.lE
  refine lv_iconst (v := nI 0) hx hb dX5_published_0 (by decide) ?_
  refine lv_istore_n (lv' := [(2, .int (nI 0)), (0, .ref (m 0)), (1, .int (nI 0))]) hx hb dX5_published_1 rfl hl (by decide) rfl (fun ls hl => ?_)
  refine lv_iconst (v := nI 0) hx hb dX5_published_2 (by decide) ?_
  refine lv_istore_n (lv' := [(3, .int (nI 0)), (2, .int (nI 0)), (0, .ref (m 0)), (1, .int (nI 0))]) hx hb dX5_published_3 rfl hl (by decide) rfl (fun ls hl => ?_)
  have loop4 : ∀ (n : Nat) (i : Nat) (xx : Nat) (hxx : xx = sm (fun k => if pbn σ k = 0 then 0 else 1) i) (hi : i ≤ nS σ) (hn : nS σ < i + n) (ls : Array Slot) (hl : lv_has ls 4 [(0, .ref (m 0)), (1, .int (nI 0)), (2, .int (nI xx)), (3, .int (nI i))]), W pr l en (zRm 2 43) st mi ar bl me cd st.heap [] 0 0 Q (F0 mi 4 ls []) := by
    intro n
    induction n with
    | zero => intro i xx hxx hi hn ls hl; exfalso; omega
    | succ n ih4 =>
      intro i xx hxx hi hn ls hl
      refine lv_iload_n hx hb dX5_published_4 rfl (lv_at hl 3 rfl) ?_
      refine lv_aload_n hx hb dX5_published_5 rfl (lv_at hl 0 rfl) ?_
      refine zrdV (As := []) ⟨hx, hb, hml, hown, hts⟩ (kX5_sheets l G m σ V ζ ns x len B ) (cwV 0 hts gX5_published_X5_sheets rfl rfl rfl (by decide +kernel) ⟨Nat.le_of_ble_eq_true rfl, Nat.le_of_ble_eq_true rfl⟩) hG (va_recv (q0 := 0) (ci := 5) hG.1 hP rfl rfl) (hP) rfl rfl hl.1 dX5_published_6 (Nat.le_of_ble_eq_true rfl) ⟨Nat.le_of_ble_eq_true rfl, Nat.le_of_ble_eq_true rfl⟩ ?_
      refine lv_icmp_ge (tgt := 50) hx hb dX5_published_9 (by decide) (fun h9 => ?_) (fun h9 => ?_)
      · skip
        have h9 : (nS σ) ≤ i := (nI_leI (by omega) (by omega)).mp h9
        refine lv_iload_n hx hb dX5_published_50 rfl (lv_at hl 2 rfl) ?_
        exact hret _ _ _ dX5_published_51 (congrArg nI (by obtain rfl : i = nS σ := (by omega); exact hxx))
      · skip
        have h9 : ¬ ((nS σ) ≤ i) := fun q => h9 ((nI_leI (by omega) (by omega)).mpr q)
        have hpb := hO.pb (show i < 36 by omega)
        have hN := hO.N
        refine lv_iload_n hx hb dX5_published_12 rfl (lv_at hl 2 rfl) ?_
        refine lv_aload_n hx hb dX5_published_13 rfl (lv_at hl 0 rfl) ?_
        refine lv_iload_n hx hb dX5_published_14 rfl (lv_at hl 3 rfl) ?_
        refine lv_bipush (v := nI 51) hx hb dX5_published_15 (by decide) ?_
        refine zrdV (As := [.int (nI i), .int (nI 51)]) ⟨hx, hb, hml, hown, hts⟩ (kX5_of_p l G m σ V ζ ns x len B i (by omega)) (cwV 2 hts gX5_published_X5_of rfl rfl rfl (by decide +kernel) ⟨Nat.le_of_ble_eq_true rfl, Nat.le_of_ble_eq_true rfl⟩) hG (va_recv (q0 := 0) (ci := 5) hG.1 hP rfl rfl) (hP) rfl rfl hl.1 dX5_published_17 (Nat.le_of_ble_eq_true rfl) ⟨Nat.le_of_ble_eq_true rfl, Nat.le_of_ble_eq_true rfl⟩ ?_
        refine lv_bipush (v := (-4)) hx hb dX5_published_20 (by decide) ?_
        refine lv_icmp_eq (tgt := 41) hx hb dX5_published_22 (by decide) (fun h22 => ?_) (fun h22 => ?_)
        · skip
          have h22 : pbn σ i = 0 := (zc4_m4 (by omega)).mp h22
          refine lv_iconst (v := nI 0) hx hb dX5_published_41 (by decide) ?_
          refine lv_iadd hx hb dX5_published_42 ?_
          refine lv_topi (nm_r (e' := nI (xx + 0)) (nI_add _ _) ?_)
          refine lv_istore_n (lv' := [(2, .int (nI (xx + 0))), (0, .ref (m 0)), (1, .int (nI 0)), (3, .int (nI i))]) hx hb dX5_published_43 rfl hl (by decide) rfl (fun ls hl => ?_)
          refine lv_iinc (v := nI (i + 1)) (lv' := [(3, .int (nI (i + 1))), (2, .int (nI (xx + 0))), (0, .ref (m 0)), (1, .int (nI 0))]) hx hb dX5_published_44 hl (k := 3) rfl (zinc1 _) (by decide) rfl (fun ls hl => ?_)
          refine lv_goto (tgt := 4) hx hb dX5_published_47 (by decide) ?_
          exact ih4 (i + 1) (xx + 0) (by rw [sm, ← hxx]; try (simp [h9, h22] <;> omega)) (by omega) (by omega) _ (lv_sub hl [2, 3, 1, 0] rfl)
        · skip
          have h22 : ¬ (pbn σ i = 0) := fun q => h22 ((zc4_m4 (by omega)).mpr q)
          refine lv_iload_n hx hb dX5_published_25 rfl (lv_at hl 1 rfl) ?_
          refine lv_if_eq (tgt := 37) hx hb dX5_published_26 (by decide) (fun h26 => ?_) (fun h26 => ?_)
          · skip
            have h26 : 0 = 0 := (z_eq0 (by omega)).mp h26
            refine lv_iconst (v := nI 1) hx hb dX5_published_37 (by decide) ?_
            refine lv_goto (tgt := 42) hx hb dX5_published_38 (by decide) ?_
            refine lv_iadd hx hb dX5_published_42 ?_
            refine lv_topi (nm_r (e' := nI (xx + 1)) (nI_add _ _) ?_)
            refine lv_istore_n (lv' := [(2, .int (nI (xx + 1))), (0, .ref (m 0)), (1, .int (nI 0)), (3, .int (nI i))]) hx hb dX5_published_43 rfl hl (by decide) rfl (fun ls hl => ?_)
            refine lv_iinc (v := nI (i + 1)) (lv' := [(3, .int (nI (i + 1))), (2, .int (nI (xx + 1))), (0, .ref (m 0)), (1, .int (nI 0))]) hx hb dX5_published_44 hl (k := 3) rfl (zinc1 _) (by decide) rfl (fun ls hl => ?_)
            refine lv_goto (tgt := 4) hx hb dX5_published_47 (by decide) ?_
            exact ih4 (i + 1) (xx + 1) (by rw [sm, ← hxx]; try (simp [h9, h22, h26] <;> omega)) (by omega) (by omega) _ (lv_sub hl [2, 3, 1, 0] rfl)
          · skip
            have h26 : ¬ (0 = 0) := fun q => h26 ((z_eq0 (by omega)).mpr q)
            have h26 : 0 < 0 := Nat.pos_of_ne_zero h26
            exfalso; omega
  exact loop4 (nS σ + 1) 0 0 (rfl) (by omega) (by omega) _ (lv_sub hl [2, 3, 1, 0] rfl)
set_option maxHeartbeats 4000000 in
set_option maxRecDepth 100000 in
theorem kX5_published_1 (l : Launch) (G : zG) (m : Nat → Nat) (σ : Nat → Nat) (V : Nat → Nat → Nat) (ζ : Nat → Nat) (ns : Nat) (x : Nat → Nat) (len : Nat) (B : Nat → Int32) {N : Nat}  (hO : Ok N σ) : Met l yX5_published wsX5_published (zRm 2 43) (zPc G [.ref (m 0), .int (nI 1)] (va_P G.1 vwCl (wM G m σ V ζ ns x len B))) (zS (.int (nI (upS σ)))) 0 0 (fun _ => False) := by
  refine zmkI (cc := cX5_published) (maxL := 4) (by decide) rfl (Nat.le_of_ble_eq_true rfl) ?_
  intro pr en st mi ar bl me cd ls Q hx hb hml hown hts hG hP hl hret
  have hown : st.vm.findClass RX5 = some mi.cls := hown
  have hl : lv_has ls 4 [(0, .ref (m 0)), (1, .int (nI 1))] := hl
  have hP : va_P G.1 vwCl (wM G m σ V ζ ns x len B) st.heap := hP
  have hc := hO.c
  have hs := hO.lS
  have hr := hO.lR
  have hne := hO.lE
  refine lv_iconst (v := nI 0) hx hb dX5_published_0 (by decide) ?_
  refine lv_istore_n (lv' := [(2, .int (nI 0)), (0, .ref (m 0)), (1, .int (nI 1))]) hx hb dX5_published_1 rfl hl (by decide) rfl (fun ls hl => ?_)
  refine lv_iconst (v := nI 0) hx hb dX5_published_2 (by decide) ?_
  refine lv_istore_n (lv' := [(3, .int (nI 0)), (2, .int (nI 0)), (0, .ref (m 0)), (1, .int (nI 1))]) hx hb dX5_published_3 rfl hl (by decide) rfl (fun ls hl => ?_)
  have loop4 : ∀ (n : Nat) (i : Nat) (xx : Nat) (hxx : xx = sm (fun k => if pbn σ k = rvn σ k + 1 then 1 else 0) i) (hi : i ≤ nS σ) (hn : nS σ < i + n) (ls : Array Slot) (hl : lv_has ls 4 [(0, .ref (m 0)), (1, .int (nI 1)), (2, .int (nI xx)), (3, .int (nI i))]), W pr l en (zRm 2 43) st mi ar bl me cd st.heap [] 0 0 Q (F0 mi 4 ls []) := by
    intro n
    induction n with
    | zero => intro i xx hxx hi hn ls hl; exfalso; omega
    | succ n ih4 =>
      intro i xx hxx hi hn ls hl
      refine lv_iload_n hx hb dX5_published_4 rfl (lv_at hl 3 rfl) ?_
      refine lv_aload_n hx hb dX5_published_5 rfl (lv_at hl 0 rfl) ?_
      refine zrdV (As := []) ⟨hx, hb, hml, hown, hts⟩ (kX5_sheets l G m σ V ζ ns x len B ) (cwV 0 hts gX5_published_X5_sheets rfl rfl rfl (by decide +kernel) ⟨Nat.le_of_ble_eq_true rfl, Nat.le_of_ble_eq_true rfl⟩) hG (va_recv (q0 := 0) (ci := 5) hG.1 hP rfl rfl) (hP) rfl rfl hl.1 dX5_published_6 (Nat.le_of_ble_eq_true rfl) ⟨Nat.le_of_ble_eq_true rfl, Nat.le_of_ble_eq_true rfl⟩ ?_
      refine lv_icmp_ge (tgt := 50) hx hb dX5_published_9 (by decide) (fun h9 => ?_) (fun h9 => ?_)
      · skip
        have h9 : (nS σ) ≤ i := (nI_leI (by omega) (by omega)).mp h9
        refine lv_iload_n hx hb dX5_published_50 rfl (lv_at hl 2 rfl) ?_
        exact hret _ _ _ dX5_published_51 (congrArg nI (by obtain rfl : i = nS σ := (by omega); exact hxx))
      · skip
        have h9 : ¬ ((nS σ) ≤ i) := fun q => h9 ((nI_leI (by omega) (by omega)).mpr q)
        have hpb := hO.pb (show i < 36 by omega)
        have hN := hO.N
        refine lv_iload_n hx hb dX5_published_12 rfl (lv_at hl 2 rfl) ?_
        refine lv_aload_n hx hb dX5_published_13 rfl (lv_at hl 0 rfl) ?_
        refine lv_iload_n hx hb dX5_published_14 rfl (lv_at hl 3 rfl) ?_
        refine lv_bipush (v := nI 51) hx hb dX5_published_15 (by decide) ?_
        refine zrdV (As := [.int (nI i), .int (nI 51)]) ⟨hx, hb, hml, hown, hts⟩ (kX5_of_p l G m σ V ζ ns x len B i (by omega)) (cwV 2 hts gX5_published_X5_of rfl rfl rfl (by decide +kernel) ⟨Nat.le_of_ble_eq_true rfl, Nat.le_of_ble_eq_true rfl⟩) hG (va_recv (q0 := 0) (ci := 5) hG.1 hP rfl rfl) (hP) rfl rfl hl.1 dX5_published_17 (Nat.le_of_ble_eq_true rfl) ⟨Nat.le_of_ble_eq_true rfl, Nat.le_of_ble_eq_true rfl⟩ ?_
        refine lv_bipush (v := (-4)) hx hb dX5_published_20 (by decide) ?_
        refine lv_icmp_eq (tgt := 41) hx hb dX5_published_22 (by decide) (fun h22 => ?_) (fun h22 => ?_)
        · skip
          have h22 : pbn σ i = 0 := (zc4_m4 (by omega)).mp h22
          refine lv_iconst (v := nI 0) hx hb dX5_published_41 (by decide) ?_
          refine lv_iadd hx hb dX5_published_42 ?_
          refine lv_topi (nm_r (e' := nI (xx + 0)) (nI_add _ _) ?_)
          refine lv_istore_n (lv' := [(2, .int (nI (xx + 0))), (0, .ref (m 0)), (1, .int (nI 1)), (3, .int (nI i))]) hx hb dX5_published_43 rfl hl (by decide) rfl (fun ls hl => ?_)
          refine lv_iinc (v := nI (i + 1)) (lv' := [(3, .int (nI (i + 1))), (2, .int (nI (xx + 0))), (0, .ref (m 0)), (1, .int (nI 1))]) hx hb dX5_published_44 hl (k := 3) rfl (zinc1 _) (by decide) rfl (fun ls hl => ?_)
          refine lv_goto (tgt := 4) hx hb dX5_published_47 (by decide) ?_
          exact ih4 (i + 1) (xx + 0) (by rw [sm, ← hxx]; try (simp [h9, h22] <;> omega)) (by omega) (by omega) _ (lv_sub hl [2, 3, 1, 0] rfl)
        · skip
          have h22 : ¬ (pbn σ i = 0) := fun q => h22 ((zc4_m4 (by omega)).mpr q)
          refine lv_iload_n hx hb dX5_published_25 rfl (lv_at hl 1 rfl) ?_
          refine lv_if_eq (tgt := 37) hx hb dX5_published_26 (by decide) (fun h26 => ?_) (fun h26 => ?_)
          · skip
            have h26 : 1 = 0 := (z_eq0 (by omega)).mp h26
            exfalso; omega
          · skip
            have h26 : ¬ (1 = 0) := fun q => h26 ((z_eq0 (by omega)).mpr q)
            have h26 : 0 < 1 := Nat.pos_of_ne_zero h26
            refine lv_aload_n hx hb dX5_published_29 rfl (lv_at hl 0 rfl) ?_
            refine lv_iload_n hx hb dX5_published_30 rfl (lv_at hl 3 rfl) ?_
            refine zrdV (As := [.int (nI i)]) ⟨hx, hb, hml, hown, hts⟩ (kX5_isUpToDate l G m σ V ζ ns x len B i (hO) (by omega)) (cwV 1 hts gX5_published_X5_isUpToDate rfl rfl rfl (by decide +kernel) ⟨Nat.le_of_ble_eq_true rfl, Nat.le_of_ble_eq_true rfl⟩) hG (va_recv (q0 := 0) (ci := 5) hG.1 hP rfl rfl) (hP) rfl rfl hl.1 dX5_published_31 (Nat.le_of_ble_eq_true rfl) ⟨Nat.le_of_ble_eq_true rfl, Nat.le_of_ble_eq_true rfl⟩ ?_
            refine lv_if_eq (tgt := 41) hx hb dX5_published_34 (by decide) (fun h34 => ?_) (fun h34 => ?_)
            · skip
              have h34 : ¬ (pbn σ i = rvn σ i + 1) := (z_b0).mp h34
              refine lv_iconst (v := nI 0) hx hb dX5_published_41 (by decide) ?_
              refine lv_iadd hx hb dX5_published_42 ?_
              refine lv_topi (nm_r (e' := nI (xx + 0)) (nI_add _ _) ?_)
              refine lv_istore_n (lv' := [(2, .int (nI (xx + 0))), (0, .ref (m 0)), (1, .int (nI 1)), (3, .int (nI i))]) hx hb dX5_published_43 rfl hl (by decide) rfl (fun ls hl => ?_)
              refine lv_iinc (v := nI (i + 1)) (lv' := [(3, .int (nI (i + 1))), (2, .int (nI (xx + 0))), (0, .ref (m 0)), (1, .int (nI 1))]) hx hb dX5_published_44 hl (k := 3) rfl (zinc1 _) (by decide) rfl (fun ls hl => ?_)
              refine lv_goto (tgt := 4) hx hb dX5_published_47 (by decide) ?_
              exact ih4 (i + 1) (xx + 0) (by rw [sm, ← hxx]; try (simp [h9, h22, h26, h34] <;> omega)) (by omega) (by omega) _ (lv_sub hl [2, 3, 1, 0] rfl)
            · skip
              have h34 : ¬ (¬ (pbn σ i = rvn σ i + 1)) := fun q => h34 ((z_b0).mpr q)
              have h34 : pbn σ i = rvn σ i + 1 := Decidable.of_not_not h34
              refine lv_iconst (v := nI 1) hx hb dX5_published_37 (by decide) ?_
              refine lv_goto (tgt := 42) hx hb dX5_published_38 (by decide) ?_
              refine lv_iadd hx hb dX5_published_42 ?_
              refine lv_topi (nm_r (e' := nI (xx + 1)) (nI_add _ _) ?_)
              refine lv_istore_n (lv' := [(2, .int (nI (xx + 1))), (0, .ref (m 0)), (1, .int (nI 1)), (3, .int (nI i))]) hx hb dX5_published_43 rfl hl (by decide) rfl (fun ls hl => ?_)
              refine lv_iinc (v := nI (i + 1)) (lv' := [(3, .int (nI (i + 1))), (2, .int (nI (xx + 1))), (0, .ref (m 0)), (1, .int (nI 1))]) hx hb dX5_published_44 hl (k := 3) rfl (zinc1 _) (by decide) rfl (fun ls hl => ?_)
              refine lv_goto (tgt := 4) hx hb dX5_published_47 (by decide) ?_
              exact ih4 (i + 1) (xx + 1) (by rw [sm, ← hxx]; try (simp [h9, h22, h26, h34] <;> omega)) (by omega) (by omega) _ (lv_sub hl [2, 3, 1, 0] rfl)
  exact loop4 (nS σ + 1) 0 0 (rfl) (by omega) (by omega) _ (lv_sub hl [2, 3, 1, 0] rfl)
set_option maxHeartbeats 4000000 in
set_option maxRecDepth 100000 in
theorem kX5_sumOf_4 (l : Launch) (G : zG) (m : Nat → Nat) (σ : Nat → Nat) (V : Nat → Nat → Nat) (ζ : Nat → Nat) (ns : Nat) (x : Nat → Nat) (len : Nat) (B : Nat → Int32) {N : Nat}  (hO : Ok N σ) : Met l yX5_sumOf wsX5_sumOf (zRm 6 138) (zPc G [.ref (m 0), .int (nI 4)] (va_P G.1 vwCl (wM G m σ V ζ ns x len B))) (zS (.int (nI (agA σ)))) 0 0 (fun _ => False) := by
  refine zmkI (cc := cX5_sumOf) (maxL := 6) (by decide) rfl (Nat.le_of_ble_eq_true rfl) ?_
  intro pr en st mi ar bl me cd ls Q hx hb hml hown hts hG hP hl hret
  have hown : st.vm.findClass RX5 = some mi.cls := hown
  have hl : lv_has ls 6 [(0, .ref (m 0)), (1, .int (nI 4))] := hl
  have hP : va_P G.1 vwCl (wM G m σ V ζ ns x len B) st.heap := hP
  have hc := hO.c
  have hs := hO.lS
  have hr := hO.lR
  have hne := hO.lE
  refine lv_iconst (v := nI 0) hx hb dX5_sumOf_0 (by decide) ?_
  refine lv_istore_n (lv' := [(2, .int (nI 0)), (0, .ref (m 0)), (1, .int (nI 4))]) hx hb dX5_sumOf_1 rfl hl (by decide) rfl (fun ls hl => ?_)
  refine lv_iconst (v := nI 0) hx hb dX5_sumOf_2 (by decide) ?_
  refine lv_istore_n (lv' := [(3, .int (nI 0)), (2, .int (nI 0)), (0, .ref (m 0)), (1, .int (nI 4))]) hx hb dX5_sumOf_3 rfl hl (by decide) rfl (fun ls hl => ?_)
  have loop4 : ∀ (n : Nat) (i : Nat) (xx : Nat) (hxx : xx = sm (fun e => if agn σ e = 1 then 1 else 0) i) (hi : i ≤ nE σ) (hn : nE σ < i + n) (ls : Array Slot) (hl : lv_has ls 6 [(0, .ref (m 0)), (1, .int (nI 4)), (2, .int (nI xx)), (3, .int (nI i))]), W pr l en (zRm 6 138) st mi ar bl me cd st.heap [] 0 0 Q (F0 mi 4 ls []) := by
    intro n
    induction n with
    | zero => intro i xx hxx hi hn ls hl; exfalso; omega
    | succ n ih4 =>
      intro i xx hxx hi hn ls hl
      refine lv_iload_n hx hb dX5_sumOf_4 rfl (lv_at hl 3 rfl) ?_
      refine lv_aload_n hx hb dX5_sumOf_5 rfl (lv_at hl 0 rfl) ?_
      refine zrdV (As := []) ⟨hx, hb, hml, hown, hts⟩ (kX5_edges l G m σ V ζ ns x len B (hO)) (cwV 0 hts gX5_sumOf_X5_edges rfl rfl rfl (by decide +kernel) ⟨Nat.le_of_ble_eq_true rfl, Nat.le_of_ble_eq_true rfl⟩) hG (va_recv (q0 := 0) (ci := 5) hG.1 hP rfl rfl) (hP) rfl rfl hl.1 dX5_sumOf_6 (Nat.le_of_ble_eq_true rfl) ⟨Nat.le_of_ble_eq_true rfl, Nat.le_of_ble_eq_true rfl⟩ ?_
      refine lv_icmp_ge (tgt := 104) hx hb dX5_sumOf_9 (by decide) (fun h9 => ?_) (fun h9 => ?_)
      · skip
        have h9 : (nE σ) ≤ i := (nI_leI (by omega) (by omega)).mp h9
        refine lv_iload_n hx hb dX5_sumOf_104 rfl (lv_at hl 2 rfl) ?_
        exact hret _ _ _ dX5_sumOf_105 (congrArg nI (by obtain rfl : i = nE σ := (by omega); exact hxx))
      · skip
        have h9 : ¬ ((nE σ) ≤ i) := fun q => h9 ((nI_leI (by omega) (by omega)).mpr q)
        refine lv_iload_n hx hb dX5_sumOf_12 rfl (lv_at hl 1 rfl) ?_
        refine lv_bipush (v := nI 6) hx hb dX5_sumOf_13 (by decide) ?_
        refine lv_icmp_ne (tgt := 26) hx hb dX5_sumOf_15 (by decide) (fun h15 => ?_) (fun h15 => ?_)
        · skip
          have h15 : ¬ (4 = 6) := fun q => h15 ((nI_eq (by omega) (by omega)).mpr q)
          refine lv_iconst (v := nI 1) hx hb dX5_sumOf_26 (by decide) ?_
          refine lv_istore (lv' := [(4, .int (nI 1)), (0, .ref (m 0)), (1, .int (nI 4)), (2, .int (nI xx)), (3, .int (nI i))]) hx hb dX5_sumOf_27 hl (by decide) rfl (fun ls hl => ?_)
          refine lv_iload_n hx hb dX5_sumOf_29 rfl (lv_at hl 2 rfl) ?_
          refine lv_iconst (v := nI 4) hx hb dX5_sumOf_30 (by decide) ?_
          refine lv_icmp_ne (tgt := 42) hx hb dX5_sumOf_31 (by decide) (fun h31 => ?_) (fun h31 => ?_)
          · skip
            have h31 : ¬ (4 = 4) := fun q => h31 ((nI_eq (by omega) (by omega)).mpr q)
            exfalso; omega
          · skip
            have h31 : 4 = 4 := (nI_eq (by omega) (by omega)).mp h31
            refine lv_aload_n hx hb dX5_sumOf_34 rfl (lv_at hl 1 rfl) ?_
            refine lv_iload_n hx hb dX5_sumOf_35 rfl (lv_at hl 4 rfl) ?_
            refine zrdV (As := [.int (nI i)]) ⟨hx, hb, hml, hown, hts⟩ (kX5_isAgreed l G m σ V ζ ns x len B i (hO) (by omega)) (cwV 1 hts gX5_sumOf_X5_isAgreed rfl rfl rfl (by decide +kernel) ⟨Nat.le_of_ble_eq_true rfl, Nat.le_of_ble_eq_true rfl⟩) hG (va_recv (q0 := 0) (ci := 5) hG.1 hP rfl rfl) (hP) rfl rfl hl.1 dX5_sumOf_36 (Nat.le_of_ble_eq_true rfl) ⟨Nat.le_of_ble_eq_true rfl, Nat.le_of_ble_eq_true rfl⟩ ?_
            refine lv_goto (tgt := 82) hx hb dX5_sumOf_39 (by decide) ?_
            refine lv_istore (lv' := [(5, .int (if agn σ i = 1 then 1 else 0)), (4, .int (nI 1)), (0, .ref (m 0)), (1, .int (nI 4)), (2, .int (nI xx)), (3, .int (nI i))]) hx hb dX5_sumOf_82 hl (by decide) rfl (fun ls hl => ?_)
            refine lv_iload_n hx hb dX5_sumOf_84 rfl (lv_at hl 4 rfl) ?_
            refine lv_iload hx hb dX5_sumOf_85 (lv_at hl 0 rfl) ?_
            refine lv_if_eq (tgt := 95) hx hb dX5_sumOf_87 (by decide) (fun h87 => ?_) (fun h87 => ?_)
            · skip
              have h87 : ¬ (agn σ i = 1) := (z_b0).mp h87
              refine lv_iconst (v := nI 0) hx hb dX5_sumOf_95 (by decide) ?_
              refine lv_iadd hx hb dX5_sumOf_96 ?_
              refine lv_topi (nm_r (e' := nI (xx + 0)) (nI_add _ _) ?_)
              refine lv_istore_n (lv' := [(2, .int (nI (xx + 0))), (5, .int (if agn σ i = 1 then 1 else 0)), (4, .int (nI 1)), (0, .ref (m 0)), (1, .int (nI 4)), (3, .int (nI i))]) hx hb dX5_sumOf_97 rfl hl (by decide) rfl (fun ls hl => ?_)
              refine lv_iinc (v := nI (i + 1)) (lv' := [(3, .int (nI (i + 1))), (2, .int (nI (xx + 0))), (5, .int (if agn σ i = 1 then 1 else 0)), (4, .int (nI 1)), (0, .ref (m 0)), (1, .int (nI 4))]) hx hb dX5_sumOf_98 hl (k := 5) rfl (zinc1 _) (by decide) rfl (fun ls hl => ?_)
              refine lv_goto (tgt := 4) hx hb dX5_sumOf_101 (by decide) ?_
              exact ih4 (i + 1) (xx + 0) (by rw [sm, ← hxx]; simp [h87] <;> omega) (by omega) (by omega) _ (lv_sub hl [4, 5, 1, 0] rfl)
            · skip
              have h87 : ¬ (¬ (agn σ i = 1)) := fun q => h87 ((z_b0).mpr q)
              have h87 : agn σ i = 1 := Decidable.of_not_not h87
              refine lv_iload hx hb dX5_sumOf_90 (lv_at hl 1 rfl) ?_
              refine lv_goto (tgt := 96) hx hb dX5_sumOf_92 (by decide) ?_
              refine lv_iadd hx hb dX5_sumOf_96 ?_
              refine lv_topi (nm_r (e' := nI (xx + 1)) (nI_add _ _) ?_)
              refine lv_istore_n (lv' := [(2, .int (nI (xx + 1))), (5, .int (if agn σ i = 1 then 1 else 0)), (4, .int (nI 1)), (0, .ref (m 0)), (1, .int (nI 4)), (3, .int (nI i))]) hx hb dX5_sumOf_97 rfl hl (by decide) rfl (fun ls hl => ?_)
              refine lv_iinc (v := nI (i + 1)) (lv' := [(3, .int (nI (i + 1))), (2, .int (nI (xx + 1))), (5, .int (if agn σ i = 1 then 1 else 0)), (4, .int (nI 1)), (0, .ref (m 0)), (1, .int (nI 4))]) hx hb dX5_sumOf_98 hl (k := 5) rfl (zinc1 _) (by decide) rfl (fun ls hl => ?_)
              refine lv_goto (tgt := 4) hx hb dX5_sumOf_101 (by decide) ?_
              exact ih4 (i + 1) (xx + 1) (by rw [sm, ← hxx]; simp [h87] <;> omega) (by omega) (by omega) _ (lv_sub hl [4, 5, 1, 0] rfl)
        · skip
          have h15 : 4 = 6 := (nI_eq (by omega) (by omega)).mp h15
          exfalso; omega
  exact loop4 (nE σ + 1) 0 0 (rfl) (by omega) (by omega) _ (lv_sub hl [2, 3, 1, 0] rfl)
set_option maxHeartbeats 4000000 in
set_option maxRecDepth 100000 in
theorem kX5_sumOf_5 (l : Launch) (G : zG) (m : Nat → Nat) (σ : Nat → Nat) (V : Nat → Nat → Nat) (ζ : Nat → Nat) (ns : Nat) (x : Nat → Nat) (len : Nat) (B : Nat → Int32) {N : Nat}  (hO : Ok N σ) : Met l yX5_sumOf wsX5_sumOf (zRm 6 138) (zPc G [.ref (m 0), .int (nI 5)] (va_P G.1 vwCl (wM G m σ V ζ ns x len B))) (zS (.int (nI (cln σ)))) 0 0 (fun _ => False) := by
  refine zmkI (cc := cX5_sumOf) (maxL := 6) (by decide) rfl (Nat.le_of_ble_eq_true rfl) ?_
  intro pr en st mi ar bl me cd ls Q hx hb hml hown hts hG hP hl hret
  have hown : st.vm.findClass RX5 = some mi.cls := hown
  have hl : lv_has ls 6 [(0, .ref (m 0)), (1, .int (nI 5))] := hl
  have hP : va_P G.1 vwCl (wM G m σ V ζ ns x len B) st.heap := hP
  have hc := hO.c
  have hs := hO.lS
  have hr := hO.lR
  have hne := hO.lE
  refine lv_iconst (v := nI 0) hx hb dX5_sumOf_0 (by decide) ?_
  refine lv_istore_n (lv' := [(2, .int (nI 0)), (0, .ref (m 0)), (1, .int (nI 5))]) hx hb dX5_sumOf_1 rfl hl (by decide) rfl (fun ls hl => ?_)
  refine lv_iconst (v := nI 0) hx hb dX5_sumOf_2 (by decide) ?_
  refine lv_istore_n (lv' := [(3, .int (nI 0)), (2, .int (nI 0)), (0, .ref (m 0)), (1, .int (nI 5))]) hx hb dX5_sumOf_3 rfl hl (by decide) rfl (fun ls hl => ?_)
  have loop4 : ∀ (n : Nat) (i : Nat) (xx : Nat) (hxx : xx = sm (fun e => if qrl σ e = 0 then 1 else 0) i) (hi : i ≤ nE σ) (hn : nE σ < i + n) (ls : Array Slot) (hl : lv_has ls 6 [(0, .ref (m 0)), (1, .int (nI 5)), (2, .int (nI xx)), (3, .int (nI i))]), W pr l en (zRm 6 138) st mi ar bl me cd st.heap [] 0 0 Q (F0 mi 4 ls []) := by
    intro n
    induction n with
    | zero => intro i xx hxx hi hn ls hl; exfalso; omega
    | succ n ih4 =>
      intro i xx hxx hi hn ls hl
      refine lv_iload_n hx hb dX5_sumOf_4 rfl (lv_at hl 3 rfl) ?_
      refine lv_aload_n hx hb dX5_sumOf_5 rfl (lv_at hl 0 rfl) ?_
      refine zrdV (As := []) ⟨hx, hb, hml, hown, hts⟩ (kX5_edges l G m σ V ζ ns x len B (hO)) (cwV 0 hts gX5_sumOf_X5_edges rfl rfl rfl (by decide +kernel) ⟨Nat.le_of_ble_eq_true rfl, Nat.le_of_ble_eq_true rfl⟩) hG (va_recv (q0 := 0) (ci := 5) hG.1 hP rfl rfl) (hP) rfl rfl hl.1 dX5_sumOf_6 (Nat.le_of_ble_eq_true rfl) ⟨Nat.le_of_ble_eq_true rfl, Nat.le_of_ble_eq_true rfl⟩ ?_
      refine lv_icmp_ge (tgt := 104) hx hb dX5_sumOf_9 (by decide) (fun h9 => ?_) (fun h9 => ?_)
      · skip
        have h9 : (nE σ) ≤ i := (nI_leI (by omega) (by omega)).mp h9
        refine lv_iload_n hx hb dX5_sumOf_104 rfl (lv_at hl 2 rfl) ?_
        exact hret _ _ _ dX5_sumOf_105 (congrArg nI (by obtain rfl : i = nE σ := (by omega); exact hxx))
      · skip
        have h9 : ¬ ((nE σ) ≤ i) := fun q => h9 ((nI_leI (by omega) (by omega)).mpr q)
        refine lv_iload_n hx hb dX5_sumOf_12 rfl (lv_at hl 1 rfl) ?_
        refine lv_bipush (v := nI 6) hx hb dX5_sumOf_13 (by decide) ?_
        refine lv_icmp_ne (tgt := 26) hx hb dX5_sumOf_15 (by decide) (fun h15 => ?_) (fun h15 => ?_)
        · skip
          have h15 : ¬ (5 = 6) := fun q => h15 ((nI_eq (by omega) (by omega)).mpr q)
          refine lv_iconst (v := nI 1) hx hb dX5_sumOf_26 (by decide) ?_
          refine lv_istore (lv' := [(4, .int (nI 1)), (0, .ref (m 0)), (1, .int (nI 5)), (2, .int (nI xx)), (3, .int (nI i))]) hx hb dX5_sumOf_27 hl (by decide) rfl (fun ls hl => ?_)
          refine lv_iload_n hx hb dX5_sumOf_29 rfl (lv_at hl 2 rfl) ?_
          refine lv_iconst (v := nI 4) hx hb dX5_sumOf_30 (by decide) ?_
          refine lv_icmp_ne (tgt := 42) hx hb dX5_sumOf_31 (by decide) (fun h31 => ?_) (fun h31 => ?_)
          · skip
            have h31 : ¬ (5 = 4) := fun q => h31 ((nI_eq (by omega) (by omega)).mpr q)
            refine lv_iload_n hx hb dX5_sumOf_42 rfl (lv_at hl 2 rfl) ?_
            refine lv_iconst (v := nI 5) hx hb dX5_sumOf_43 (by decide) ?_
            refine lv_icmp_ne (tgt := 63) hx hb dX5_sumOf_44 (by decide) (fun h44 => ?_) (fun h44 => ?_)
            · skip
              have h44 : ¬ (5 = 5) := fun q => h44 ((nI_eq (by omega) (by omega)).mpr q)
              exfalso; omega
            · skip
              have h44 : 5 = 5 := (nI_eq (by omega) (by omega)).mp h44
              refine lv_aload_n hx hb dX5_sumOf_47 rfl (lv_at hl 1 rfl) ?_
              refine lv_iload_n hx hb dX5_sumOf_48 rfl (lv_at hl 4 rfl) ?_
              refine zrdV (As := [.int (nI i)]) ⟨hx, hb, hml, hown, hts⟩ (kX5_quarrels l G m σ V ζ ns x len B i (hO) (by omega)) (cwV 1 hts gX5_sumOf_X5_quarrels rfl rfl rfl (by decide +kernel) ⟨Nat.le_of_ble_eq_true rfl, Nat.le_of_ble_eq_true rfl⟩) hG (va_recv (q0 := 0) (ci := 5) hG.1 hP rfl rfl) (hP) rfl rfl hl.1 dX5_sumOf_49 (Nat.le_of_ble_eq_true rfl) ⟨Nat.le_of_ble_eq_true rfl, Nat.le_of_ble_eq_true rfl⟩ ?_
              have hf49_0 := qrl_le σ (i)
              refine lv_if_ne (tgt := 59) hx hb dX5_sumOf_52 (by decide) (fun h52 => ?_) (fun h52 => ?_)
              · skip
                have h52 : ¬ ((qrl σ i) = 0) := fun q => h52 ((z_eq0 (by omega)).mpr q)
                have h52 : 0 < (qrl σ i) := Nat.pos_of_ne_zero h52
                refine lv_iconst (v := nI 0) hx hb dX5_sumOf_59 (by decide) ?_
                refine lv_goto (tgt := 82) hx hb dX5_sumOf_60 (by decide) ?_
                refine lv_istore (lv' := [(5, .int (nI 0)), (4, .int (nI 1)), (0, .ref (m 0)), (1, .int (nI 5)), (2, .int (nI xx)), (3, .int (nI i))]) hx hb dX5_sumOf_82 hl (by decide) rfl (fun ls hl => ?_)
                refine lv_iload_n hx hb dX5_sumOf_84 rfl (lv_at hl 4 rfl) ?_
                refine lv_iload hx hb dX5_sumOf_85 (lv_at hl 0 rfl) ?_
                refine lv_if_eq (tgt := 95) hx hb dX5_sumOf_87 (by decide) (fun h87 => ?_) (fun h87 => ?_)
                · skip
                  have h87 : 0 = 0 := (z_eq0 (by omega)).mp h87
                  refine lv_iconst (v := nI 0) hx hb dX5_sumOf_95 (by decide) ?_
                  refine lv_iadd hx hb dX5_sumOf_96 ?_
                  refine lv_topi (nm_r (e' := nI (xx + 0)) (nI_add _ _) ?_)
                  refine lv_istore_n (lv' := [(2, .int (nI (xx + 0))), (5, .int (nI 0)), (4, .int (nI 1)), (0, .ref (m 0)), (1, .int (nI 5)), (3, .int (nI i))]) hx hb dX5_sumOf_97 rfl hl (by decide) rfl (fun ls hl => ?_)
                  refine lv_iinc (v := nI (i + 1)) (lv' := [(3, .int (nI (i + 1))), (2, .int (nI (xx + 0))), (5, .int (nI 0)), (4, .int (nI 1)), (0, .ref (m 0)), (1, .int (nI 5))]) hx hb dX5_sumOf_98 hl (k := 5) rfl (zinc1 _) (by decide) rfl (fun ls hl => ?_)
                  refine lv_goto (tgt := 4) hx hb dX5_sumOf_101 (by decide) ?_
                  exact ih4 (i + 1) (xx + 0) (by rw [sm, ← hxx]; simp [h52] <;> omega) (by omega) (by omega) _ (lv_sub hl [4, 5, 1, 0] rfl)
                · skip
                  have h87 : ¬ (0 = 0) := fun q => h87 ((z_eq0 (by omega)).mpr q)
                  have h87 : 0 < 0 := Nat.pos_of_ne_zero h87
                  exfalso; omega
              · skip
                have h52 : (qrl σ i) = 0 := (z_eq0 (by omega)).mp h52
                refine lv_iconst (v := nI 1) hx hb dX5_sumOf_55 (by decide) ?_
                refine lv_goto (tgt := 82) hx hb dX5_sumOf_56 (by decide) ?_
                refine lv_istore (lv' := [(5, .int (nI 1)), (4, .int (nI 1)), (0, .ref (m 0)), (1, .int (nI 5)), (2, .int (nI xx)), (3, .int (nI i))]) hx hb dX5_sumOf_82 hl (by decide) rfl (fun ls hl => ?_)
                refine lv_iload_n hx hb dX5_sumOf_84 rfl (lv_at hl 4 rfl) ?_
                refine lv_iload hx hb dX5_sumOf_85 (lv_at hl 0 rfl) ?_
                refine lv_if_eq (tgt := 95) hx hb dX5_sumOf_87 (by decide) (fun h87 => ?_) (fun h87 => ?_)
                · skip
                  have h87 : 1 = 0 := (z_eq0 (by omega)).mp h87
                  exfalso; omega
                · skip
                  have h87 : ¬ (1 = 0) := fun q => h87 ((z_eq0 (by omega)).mpr q)
                  have h87 : 0 < 1 := Nat.pos_of_ne_zero h87
                  refine lv_iload hx hb dX5_sumOf_90 (lv_at hl 1 rfl) ?_
                  refine lv_goto (tgt := 96) hx hb dX5_sumOf_92 (by decide) ?_
                  refine lv_iadd hx hb dX5_sumOf_96 ?_
                  refine lv_topi (nm_r (e' := nI (xx + 1)) (nI_add _ _) ?_)
                  refine lv_istore_n (lv' := [(2, .int (nI (xx + 1))), (5, .int (nI 1)), (4, .int (nI 1)), (0, .ref (m 0)), (1, .int (nI 5)), (3, .int (nI i))]) hx hb dX5_sumOf_97 rfl hl (by decide) rfl (fun ls hl => ?_)
                  refine lv_iinc (v := nI (i + 1)) (lv' := [(3, .int (nI (i + 1))), (2, .int (nI (xx + 1))), (5, .int (nI 1)), (4, .int (nI 1)), (0, .ref (m 0)), (1, .int (nI 5))]) hx hb dX5_sumOf_98 hl (k := 5) rfl (zinc1 _) (by decide) rfl (fun ls hl => ?_)
                  refine lv_goto (tgt := 4) hx hb dX5_sumOf_101 (by decide) ?_
                  exact ih4 (i + 1) (xx + 1) (by rw [sm, ← hxx]; simp [h52] <;> omega) (by omega) (by omega) _ (lv_sub hl [4, 5, 1, 0] rfl)
          · skip
            have h31 : 5 = 4 := (nI_eq (by omega) (by omega)).mp h31
            exfalso; omega
        · skip
          have h15 : 5 = 6 := (nI_eq (by omega) (by omega)).mp h15
          exfalso; omega
  exact loop4 (nE σ + 1) 0 0 (rfl) (by omega) (by omega) _ (lv_sub hl [2, 3, 1, 0] rfl)
set_option maxHeartbeats 4000000 in
set_option maxRecDepth 100000 in
theorem kX5_sumOf_6 (l : Launch) (G : zG) (m : Nat → Nat) (σ : Nat → Nat) (V : Nat → Nat → Nat) (ζ : Nat → Nat) (ns : Nat) (x : Nat → Nat) (len : Nat) (B : Nat → Int32) {N : Nat}  (hO : Ok N σ) : Met l yX5_sumOf wsX5_sumOf (zRm 6 138) (zPc G [.ref (m 0), .int (nI 6)] (va_P G.1 vwCl (wM G m σ V ζ ns x len B))) (zS (.int (nI (qAl σ)))) 0 0 (fun _ => False) := by
  refine zmkI (cc := cX5_sumOf) (maxL := 6) (by decide) rfl (Nat.le_of_ble_eq_true rfl) ?_
  intro pr en st mi ar bl me cd ls Q hx hb hml hown hts hG hP hl hret
  have hown : st.vm.findClass RX5 = some mi.cls := hown
  have hl : lv_has ls 6 [(0, .ref (m 0)), (1, .int (nI 6))] := hl
  have hP : va_P G.1 vwCl (wM G m σ V ζ ns x len B) st.heap := hP
  have hc := hO.c
  have hs := hO.lS
  have hr := hO.lR
  have hne := hO.lE
  refine lv_iconst (v := nI 0) hx hb dX5_sumOf_0 (by decide) ?_
  refine lv_istore_n (lv' := [(2, .int (nI 0)), (0, .ref (m 0)), (1, .int (nI 6))]) hx hb dX5_sumOf_1 rfl hl (by decide) rfl (fun ls hl => ?_)
  refine lv_iconst (v := nI 0) hx hb dX5_sumOf_2 (by decide) ?_
  refine lv_istore_n (lv' := [(3, .int (nI 0)), (2, .int (nI 0)), (0, .ref (m 0)), (1, .int (nI 6))]) hx hb dX5_sumOf_3 rfl hl (by decide) rfl (fun ls hl => ?_)
  have loop4 : ∀ (n : Nat) (i : Nat) (xx : Nat) (hxx : xx = sm (fun e => qrl σ e) i) (hi : i ≤ nE σ) (hn : nE σ < i + n) (ls : Array Slot) (hl : lv_has ls 6 [(0, .ref (m 0)), (1, .int (nI 6)), (2, .int (nI xx)), (3, .int (nI i))]), W pr l en (zRm 6 138) st mi ar bl me cd st.heap [] 0 0 Q (F0 mi 4 ls []) := by
    intro n
    induction n with
    | zero => intro i xx hxx hi hn ls hl; exfalso; omega
    | succ n ih4 =>
      intro i xx hxx hi hn ls hl
      refine lv_iload_n hx hb dX5_sumOf_4 rfl (lv_at hl 3 rfl) ?_
      refine lv_aload_n hx hb dX5_sumOf_5 rfl (lv_at hl 0 rfl) ?_
      refine zrdV (As := []) ⟨hx, hb, hml, hown, hts⟩ (kX5_edges l G m σ V ζ ns x len B (hO)) (cwV 0 hts gX5_sumOf_X5_edges rfl rfl rfl (by decide +kernel) ⟨Nat.le_of_ble_eq_true rfl, Nat.le_of_ble_eq_true rfl⟩) hG (va_recv (q0 := 0) (ci := 5) hG.1 hP rfl rfl) (hP) rfl rfl hl.1 dX5_sumOf_6 (Nat.le_of_ble_eq_true rfl) ⟨Nat.le_of_ble_eq_true rfl, Nat.le_of_ble_eq_true rfl⟩ ?_
      refine lv_icmp_ge (tgt := 104) hx hb dX5_sumOf_9 (by decide) (fun h9 => ?_) (fun h9 => ?_)
      · skip
        have h9 : (nE σ) ≤ i := (nI_leI (by omega) (by omega)).mp h9
        refine lv_iload_n hx hb dX5_sumOf_104 rfl (lv_at hl 2 rfl) ?_
        exact hret _ _ _ dX5_sumOf_105 (congrArg nI (by obtain rfl : i = nE σ := (by omega); exact hxx))
      · skip
        have h9 : ¬ ((nE σ) ≤ i) := fun q => h9 ((nI_leI (by omega) (by omega)).mpr q)
        refine lv_iload_n hx hb dX5_sumOf_12 rfl (lv_at hl 1 rfl) ?_
        refine lv_bipush (v := nI 6) hx hb dX5_sumOf_13 (by decide) ?_
        refine lv_icmp_ne (tgt := 26) hx hb dX5_sumOf_15 (by decide) (fun h15 => ?_) (fun h15 => ?_)
        · skip
          have h15 : ¬ (6 = 6) := fun q => h15 ((nI_eq (by omega) (by omega)).mpr q)
          exfalso; omega
        · skip
          have h15 : 6 = 6 := (nI_eq (by omega) (by omega)).mp h15
          refine lv_aload_n hx hb dX5_sumOf_18 rfl (lv_at hl 0 rfl) ?_
          refine lv_iload_n hx hb dX5_sumOf_19 rfl (lv_at hl 3 rfl) ?_
          refine zrdV (As := [.int (nI i)]) ⟨hx, hb, hml, hown, hts⟩ (kX5_quarrels l G m σ V ζ ns x len B i (hO) (by omega)) (cwV 1 hts gX5_sumOf_X5_quarrels rfl rfl rfl (by decide +kernel) ⟨Nat.le_of_ble_eq_true rfl, Nat.le_of_ble_eq_true rfl⟩) hG (va_recv (q0 := 0) (ci := 5) hG.1 hP rfl rfl) (hP) rfl rfl hl.1 dX5_sumOf_20 (Nat.le_of_ble_eq_true rfl) ⟨Nat.le_of_ble_eq_true rfl, Nat.le_of_ble_eq_true rfl⟩ ?_
          have hf20_0 := qrl_le σ (i)
          refine lv_goto (tgt := 27) hx hb dX5_sumOf_23 (by decide) ?_
          refine lv_istore (lv' := [(4, .int (nI (qrl σ i))), (0, .ref (m 0)), (1, .int (nI 6)), (2, .int (nI xx)), (3, .int (nI i))]) hx hb dX5_sumOf_27 hl (by decide) rfl (fun ls hl => ?_)
          refine lv_iload_n hx hb dX5_sumOf_29 rfl (lv_at hl 2 rfl) ?_
          refine lv_iconst (v := nI 4) hx hb dX5_sumOf_30 (by decide) ?_
          refine lv_icmp_ne (tgt := 42) hx hb dX5_sumOf_31 (by decide) (fun h31 => ?_) (fun h31 => ?_)
          · skip
            have h31 : ¬ (6 = 4) := fun q => h31 ((nI_eq (by omega) (by omega)).mpr q)
            refine lv_iload_n hx hb dX5_sumOf_42 rfl (lv_at hl 2 rfl) ?_
            refine lv_iconst (v := nI 5) hx hb dX5_sumOf_43 (by decide) ?_
            refine lv_icmp_ne (tgt := 63) hx hb dX5_sumOf_44 (by decide) (fun h44 => ?_) (fun h44 => ?_)
            · skip
              have h44 : ¬ (6 = 5) := fun q => h44 ((nI_eq (by omega) (by omega)).mpr q)
              refine lv_iload_n hx hb dX5_sumOf_63 rfl (lv_at hl 2 rfl) ?_
              refine lv_bipush (v := nI 6) hx hb dX5_sumOf_64 (by decide) ?_
              refine lv_icmp_eq (tgt := 77) hx hb dX5_sumOf_66 (by decide) (fun h66 => ?_) (fun h66 => ?_)
              · skip
                have h66 : 6 = 6 := (nI_eq (by omega) (by omega)).mp h66
                refine lv_iconst (v := nI 1) hx hb dX5_sumOf_77 (by decide) ?_
                refine lv_goto (tgt := 82) hx hb dX5_sumOf_78 (by decide) ?_
                refine lv_istore (lv' := [(5, .int (nI 1)), (4, .int (nI (qrl σ i))), (0, .ref (m 0)), (1, .int (nI 6)), (2, .int (nI xx)), (3, .int (nI i))]) hx hb dX5_sumOf_82 hl (by decide) rfl (fun ls hl => ?_)
                refine lv_iload_n hx hb dX5_sumOf_84 rfl (lv_at hl 4 rfl) ?_
                refine lv_iload hx hb dX5_sumOf_85 (lv_at hl 0 rfl) ?_
                refine lv_if_eq (tgt := 95) hx hb dX5_sumOf_87 (by decide) (fun h87 => ?_) (fun h87 => ?_)
                · skip
                  have h87 : 1 = 0 := (z_eq0 (by omega)).mp h87
                  exfalso; omega
                · skip
                  have h87 : ¬ (1 = 0) := fun q => h87 ((z_eq0 (by omega)).mpr q)
                  have h87 : 0 < 1 := Nat.pos_of_ne_zero h87
                  refine lv_iload hx hb dX5_sumOf_90 (lv_at hl 1 rfl) ?_
                  refine lv_goto (tgt := 96) hx hb dX5_sumOf_92 (by decide) ?_
                  refine lv_iadd hx hb dX5_sumOf_96 ?_
                  refine lv_topi (nm_r (e' := nI (xx + (qrl σ i))) (nI_add _ _) ?_)
                  refine lv_istore_n (lv' := [(2, .int (nI (xx + (qrl σ i)))), (5, .int (nI 1)), (4, .int (nI (qrl σ i))), (0, .ref (m 0)), (1, .int (nI 6)), (3, .int (nI i))]) hx hb dX5_sumOf_97 rfl hl (by decide) rfl (fun ls hl => ?_)
                  refine lv_iinc (v := nI (i + 1)) (lv' := [(3, .int (nI (i + 1))), (2, .int (nI (xx + (qrl σ i)))), (5, .int (nI 1)), (4, .int (nI (qrl σ i))), (0, .ref (m 0)), (1, .int (nI 6))]) hx hb dX5_sumOf_98 hl (k := 5) rfl (zinc1 _) (by decide) rfl (fun ls hl => ?_)
                  refine lv_goto (tgt := 4) hx hb dX5_sumOf_101 (by decide) ?_
                  exact ih4 (i + 1) (xx + (qrl σ i)) (by rw [sm, ← hxx]) (by omega) (by omega) _ (lv_sub hl [4, 5, 1, 0] rfl)
              · skip
                have h66 : ¬ (6 = 6) := fun q => h66 ((nI_eq (by omega) (by omega)).mpr q)
                exfalso; omega
            · skip
              have h44 : 6 = 5 := (nI_eq (by omega) (by omega)).mp h44
              exfalso; omega
          · skip
            have h31 : 6 = 4 := (nI_eq (by omega) (by omega)).mp h31
            exfalso; omega
  exact loop4 (nE σ + 1) 0 0 (rfl) (by omega) (by omega) _ (lv_sub hl [2, 3, 1, 0] rfl)
set_option maxHeartbeats 4000000 in
set_option maxRecDepth 100000 in
theorem kX5_sumOf_10 (l : Launch) (G : zG) (m : Nat → Nat) (σ : Nat → Nat) (V : Nat → Nat → Nat) (ζ : Nat → Nat) (ns : Nat) (x : Nat → Nat) (len : Nat) (B : Nat → Int32) {N : Nat}  (hO : Ok N σ) : Met l yX5_sumOf wsX5_sumOf (zRm 6 138) (zPc G [.ref (m 0), .int (nI 10)] (va_P G.1 vwCl (wM G m σ V ζ ns x len B))) (zS (.int (nI (fitA σ)))) 0 0 (fun _ => False) := by
  refine zmkI (cc := cX5_sumOf) (maxL := 6) (by decide) rfl (Nat.le_of_ble_eq_true rfl) ?_
  intro pr en st mi ar bl me cd ls Q hx hb hml hown hts hG hP hl hret
  have hown : st.vm.findClass RX5 = some mi.cls := hown
  have hl : lv_has ls 6 [(0, .ref (m 0)), (1, .int (nI 10))] := hl
  have hP : va_P G.1 vwCl (wM G m σ V ζ ns x len B) st.heap := hP
  have hc := hO.c
  have hs := hO.lS
  have hr := hO.lR
  have hne := hO.lE
  refine lv_iconst (v := nI 0) hx hb dX5_sumOf_0 (by decide) ?_
  refine lv_istore_n (lv' := [(2, .int (nI 0)), (0, .ref (m 0)), (1, .int (nI 10))]) hx hb dX5_sumOf_1 rfl hl (by decide) rfl (fun ls hl => ?_)
  refine lv_iconst (v := nI 0) hx hb dX5_sumOf_2 (by decide) ?_
  refine lv_istore_n (lv' := [(3, .int (nI 0)), (2, .int (nI 0)), (0, .ref (m 0)), (1, .int (nI 10))]) hx hb dX5_sumOf_3 rfl hl (by decide) rfl (fun ls hl => ?_)
  have loop4 : ∀ (n : Nat) (i : Nat) (xx : Nat) (hxx : xx = sm (fun e => if fitP σ e then 1 else 0) i) (hi : i ≤ nE σ) (hn : nE σ < i + n) (ls : Array Slot) (hl : lv_has ls 6 [(0, .ref (m 0)), (1, .int (nI 10)), (2, .int (nI xx)), (3, .int (nI i))]), W pr l en (zRm 6 138) st mi ar bl me cd st.heap [] 0 0 Q (F0 mi 4 ls []) := by
    intro n
    induction n with
    | zero => intro i xx hxx hi hn ls hl; exfalso; omega
    | succ n ih4 =>
      intro i xx hxx hi hn ls hl
      refine lv_iload_n hx hb dX5_sumOf_4 rfl (lv_at hl 3 rfl) ?_
      refine lv_aload_n hx hb dX5_sumOf_5 rfl (lv_at hl 0 rfl) ?_
      refine zrdV (As := []) ⟨hx, hb, hml, hown, hts⟩ (kX5_edges l G m σ V ζ ns x len B (hO)) (cwV 0 hts gX5_sumOf_X5_edges rfl rfl rfl (by decide +kernel) ⟨Nat.le_of_ble_eq_true rfl, Nat.le_of_ble_eq_true rfl⟩) hG (va_recv (q0 := 0) (ci := 5) hG.1 hP rfl rfl) (hP) rfl rfl hl.1 dX5_sumOf_6 (Nat.le_of_ble_eq_true rfl) ⟨Nat.le_of_ble_eq_true rfl, Nat.le_of_ble_eq_true rfl⟩ ?_
      refine lv_icmp_ge (tgt := 104) hx hb dX5_sumOf_9 (by decide) (fun h9 => ?_) (fun h9 => ?_)
      · skip
        have h9 : (nE σ) ≤ i := (nI_leI (by omega) (by omega)).mp h9
        refine lv_iload_n hx hb dX5_sumOf_104 rfl (lv_at hl 2 rfl) ?_
        exact hret _ _ _ dX5_sumOf_105 (congrArg nI (by obtain rfl : i = nE σ := (by omega); exact hxx))
      · skip
        have h9 : ¬ ((nE σ) ≤ i) := fun q => h9 ((nI_leI (by omega) (by omega)).mpr q)
        refine lv_iload_n hx hb dX5_sumOf_12 rfl (lv_at hl 1 rfl) ?_
        refine lv_bipush (v := nI 6) hx hb dX5_sumOf_13 (by decide) ?_
        refine lv_icmp_ne (tgt := 26) hx hb dX5_sumOf_15 (by decide) (fun h15 => ?_) (fun h15 => ?_)
        · skip
          have h15 : ¬ (10 = 6) := fun q => h15 ((nI_eq (by omega) (by omega)).mpr q)
          refine lv_iconst (v := nI 1) hx hb dX5_sumOf_26 (by decide) ?_
          refine lv_istore (lv' := [(4, .int (nI 1)), (0, .ref (m 0)), (1, .int (nI 10)), (2, .int (nI xx)), (3, .int (nI i))]) hx hb dX5_sumOf_27 hl (by decide) rfl (fun ls hl => ?_)
          refine lv_iload_n hx hb dX5_sumOf_29 rfl (lv_at hl 2 rfl) ?_
          refine lv_iconst (v := nI 4) hx hb dX5_sumOf_30 (by decide) ?_
          refine lv_icmp_ne (tgt := 42) hx hb dX5_sumOf_31 (by decide) (fun h31 => ?_) (fun h31 => ?_)
          · skip
            have h31 : ¬ (10 = 4) := fun q => h31 ((nI_eq (by omega) (by omega)).mpr q)
            refine lv_iload_n hx hb dX5_sumOf_42 rfl (lv_at hl 2 rfl) ?_
            refine lv_iconst (v := nI 5) hx hb dX5_sumOf_43 (by decide) ?_
            refine lv_icmp_ne (tgt := 63) hx hb dX5_sumOf_44 (by decide) (fun h44 => ?_) (fun h44 => ?_)
            · skip
              have h44 : ¬ (10 = 5) := fun q => h44 ((nI_eq (by omega) (by omega)).mpr q)
              refine lv_iload_n hx hb dX5_sumOf_63 rfl (lv_at hl 2 rfl) ?_
              refine lv_bipush (v := nI 6) hx hb dX5_sumOf_64 (by decide) ?_
              refine lv_icmp_eq (tgt := 77) hx hb dX5_sumOf_66 (by decide) (fun h66 => ?_) (fun h66 => ?_)
              · skip
                have h66 : 10 = 6 := (nI_eq (by omega) (by omega)).mp h66
                exfalso; omega
              · skip
                have h66 : ¬ (10 = 6) := fun q => h66 ((nI_eq (by omega) (by omega)).mpr q)
                refine lv_aload_n hx hb dX5_sumOf_69 rfl (lv_at hl 1 rfl) ?_
                refine lv_iload_n hx hb dX5_sumOf_70 rfl (lv_at hl 4 rfl) ?_
                refine zrdV (As := [.int (nI i)]) ⟨hx, hb, hml, hown, hts⟩ (kX5_fits l G m σ V ζ ns x len B i (hO) (by omega)) (cwV 1 hts gX5_sumOf_X5_fits rfl rfl rfl (by decide +kernel) ⟨Nat.le_of_ble_eq_true rfl, Nat.le_of_ble_eq_true rfl⟩) hG (va_recv (q0 := 0) (ci := 5) hG.1 hP rfl rfl) (hP) rfl rfl hl.1 dX5_sumOf_71 (Nat.le_of_ble_eq_true rfl) ⟨Nat.le_of_ble_eq_true rfl, Nat.le_of_ble_eq_true rfl⟩ ?_
                refine lv_if_eq (tgt := 81) hx hb dX5_sumOf_74 (by decide) (fun h74 => ?_) (fun h74 => ?_)
                · skip
                  have h74 : ¬ (fitP σ i) := (z_b0).mp h74
                  refine lv_iconst (v := nI 0) hx hb dX5_sumOf_81 (by decide) ?_
                  refine lv_istore (lv' := [(5, .int (nI 0)), (4, .int (nI 1)), (0, .ref (m 0)), (1, .int (nI 10)), (2, .int (nI xx)), (3, .int (nI i))]) hx hb dX5_sumOf_82 hl (by decide) rfl (fun ls hl => ?_)
                  refine lv_iload_n hx hb dX5_sumOf_84 rfl (lv_at hl 4 rfl) ?_
                  refine lv_iload hx hb dX5_sumOf_85 (lv_at hl 0 rfl) ?_
                  refine lv_if_eq (tgt := 95) hx hb dX5_sumOf_87 (by decide) (fun h87 => ?_) (fun h87 => ?_)
                  · skip
                    have h87 : 0 = 0 := (z_eq0 (by omega)).mp h87
                    refine lv_iconst (v := nI 0) hx hb dX5_sumOf_95 (by decide) ?_
                    refine lv_iadd hx hb dX5_sumOf_96 ?_
                    refine lv_topi (nm_r (e' := nI (xx + 0)) (nI_add _ _) ?_)
                    refine lv_istore_n (lv' := [(2, .int (nI (xx + 0))), (5, .int (nI 0)), (4, .int (nI 1)), (0, .ref (m 0)), (1, .int (nI 10)), (3, .int (nI i))]) hx hb dX5_sumOf_97 rfl hl (by decide) rfl (fun ls hl => ?_)
                    refine lv_iinc (v := nI (i + 1)) (lv' := [(3, .int (nI (i + 1))), (2, .int (nI (xx + 0))), (5, .int (nI 0)), (4, .int (nI 1)), (0, .ref (m 0)), (1, .int (nI 10))]) hx hb dX5_sumOf_98 hl (k := 5) rfl (zinc1 _) (by decide) rfl (fun ls hl => ?_)
                    refine lv_goto (tgt := 4) hx hb dX5_sumOf_101 (by decide) ?_
                    exact ih4 (i + 1) (xx + 0) (by rw [sm, ← hxx]; simp [h74] <;> omega) (by omega) (by omega) _ (lv_sub hl [4, 5, 1, 0] rfl)
                  · skip
                    have h87 : ¬ (0 = 0) := fun q => h87 ((z_eq0 (by omega)).mpr q)
                    have h87 : 0 < 0 := Nat.pos_of_ne_zero h87
                    exfalso; omega
                · skip
                  have h74 : ¬ (¬ (fitP σ i)) := fun q => h74 ((z_b0).mpr q)
                  have h74 : fitP σ i := Decidable.of_not_not h74
                  refine lv_iconst (v := nI 1) hx hb dX5_sumOf_77 (by decide) ?_
                  refine lv_goto (tgt := 82) hx hb dX5_sumOf_78 (by decide) ?_
                  refine lv_istore (lv' := [(5, .int (nI 1)), (4, .int (nI 1)), (0, .ref (m 0)), (1, .int (nI 10)), (2, .int (nI xx)), (3, .int (nI i))]) hx hb dX5_sumOf_82 hl (by decide) rfl (fun ls hl => ?_)
                  refine lv_iload_n hx hb dX5_sumOf_84 rfl (lv_at hl 4 rfl) ?_
                  refine lv_iload hx hb dX5_sumOf_85 (lv_at hl 0 rfl) ?_
                  refine lv_if_eq (tgt := 95) hx hb dX5_sumOf_87 (by decide) (fun h87 => ?_) (fun h87 => ?_)
                  · skip
                    have h87 : 1 = 0 := (z_eq0 (by omega)).mp h87
                    exfalso; omega
                  · skip
                    have h87 : ¬ (1 = 0) := fun q => h87 ((z_eq0 (by omega)).mpr q)
                    have h87 : 0 < 1 := Nat.pos_of_ne_zero h87
                    refine lv_iload hx hb dX5_sumOf_90 (lv_at hl 1 rfl) ?_
                    refine lv_goto (tgt := 96) hx hb dX5_sumOf_92 (by decide) ?_
                    refine lv_iadd hx hb dX5_sumOf_96 ?_
                    refine lv_topi (nm_r (e' := nI (xx + 1)) (nI_add _ _) ?_)
                    refine lv_istore_n (lv' := [(2, .int (nI (xx + 1))), (5, .int (nI 1)), (4, .int (nI 1)), (0, .ref (m 0)), (1, .int (nI 10)), (3, .int (nI i))]) hx hb dX5_sumOf_97 rfl hl (by decide) rfl (fun ls hl => ?_)
                    refine lv_iinc (v := nI (i + 1)) (lv' := [(3, .int (nI (i + 1))), (2, .int (nI (xx + 1))), (5, .int (nI 1)), (4, .int (nI 1)), (0, .ref (m 0)), (1, .int (nI 10))]) hx hb dX5_sumOf_98 hl (k := 5) rfl (zinc1 _) (by decide) rfl (fun ls hl => ?_)
                    refine lv_goto (tgt := 4) hx hb dX5_sumOf_101 (by decide) ?_
                    exact ih4 (i + 1) (xx + 1) (by rw [sm, ← hxx]; simp [h74] <;> omega) (by omega) (by omega) _ (lv_sub hl [4, 5, 1, 0] rfl)
            · skip
              have h44 : 10 = 5 := (nI_eq (by omega) (by omega)).mp h44
              exfalso; omega
          · skip
            have h31 : 10 = 4 := (nI_eq (by omega) (by omega)).mp h31
            exfalso; omega
        · skip
          have h15 : 10 = 6 := (nI_eq (by omega) (by omega)).mp h15
          exfalso; omega
  exact loop4 (nE σ + 1) 0 0 (rfl) (by omega) (by omega) _ (lv_sub hl [2, 3, 1, 0] rfl)
set_option maxHeartbeats 4000000 in
set_option maxRecDepth 100000 in
theorem kX5_sideNamed (l : Launch) (G : zG)  (c : Nat) (hc : c < 65536) : Met l yX5_sideNamed wsX5_sideNamed (zRm 0 0) (zPc G [.int (nI c)] (fun _ => True)) (zS (.int (zc 4 (sdN c)))) 0 0 (fun _ => False) := by
  refine zmkI (cc := cX5_sideNamed) (maxL := 1) (by decide) rfl (Nat.le_of_ble_eq_true rfl) ?_
  intro pr en st mi ar bl me cd ls Q hx hb hml hown hts hG hP hl hret
  have hown : st.vm.findClass RX5 = some mi.cls := hown
  have hl : lv_has ls 1 [(0, .int (nI c))] := hl
  refine lv_iload_n hx hb dX5_sideNamed_0 rfl (lv_at hl 0 rfl) ?_
  refine lv_bipush (v := nI 110) hx hb dX5_sideNamed_1 (by decide) ?_
  refine lv_icmp_ne (tgt := 10) hx hb dX5_sideNamed_3 (by decide) (fun h3 => ?_) (fun h3 => ?_)
  · skip
    have h3 : ¬ (c = 110) := fun q => h3 ((nI_eq (by omega) (by omega)).mpr q)
    refine lv_iload_n hx hb dX5_sideNamed_10 rfl (lv_at hl 0 rfl) ?_
    refine lv_bipush (v := nI 101) hx hb dX5_sideNamed_11 (by decide) ?_
    refine lv_icmp_ne (tgt := 20) hx hb dX5_sideNamed_13 (by decide) (fun h13 => ?_) (fun h13 => ?_)
    · skip
      have h13 : ¬ (c = 101) := fun q => h13 ((nI_eq (by omega) (by omega)).mpr q)
      refine lv_iload_n hx hb dX5_sideNamed_20 rfl (lv_at hl 0 rfl) ?_
      refine lv_bipush (v := nI 115) hx hb dX5_sideNamed_21 (by decide) ?_
      refine lv_icmp_ne (tgt := 30) hx hb dX5_sideNamed_23 (by decide) (fun h23 => ?_) (fun h23 => ?_)
      · skip
        have h23 : ¬ (c = 115) := fun q => h23 ((nI_eq (by omega) (by omega)).mpr q)
        refine lv_iload_n hx hb dX5_sideNamed_30 rfl (lv_at hl 0 rfl) ?_
        refine lv_bipush (v := nI 119) hx hb dX5_sideNamed_31 (by decide) ?_
        refine lv_icmp_ne (tgt := 40) hx hb dX5_sideNamed_33 (by decide) (fun h33 => ?_) (fun h33 => ?_)
        · skip
          have h33 : ¬ (c = 119) := fun q => h33 ((nI_eq (by omega) (by omega)).mpr q)
          refine lv_bipush (v := (-4)) hx hb dX5_sideNamed_40 (by decide) ?_
          exact hret _ _ _ dX5_sideNamed_42 (by rw [show sdN c = 4 by unfold sdN; rw [if_neg h3, if_neg h13, if_neg h23, if_neg h33]]; rfl)
        · skip
          have h33 : c = 119 := (nI_eq (by omega) (by omega)).mp h33
          refine lv_iconst (v := nI 3) hx hb dX5_sideNamed_36 (by decide) ?_
          refine lv_goto (tgt := 42) hx hb dX5_sideNamed_37 (by decide) ?_
          exact hret _ _ _ dX5_sideNamed_42 (by rw [show sdN c = 3 by unfold sdN; rw [if_neg h3, if_neg h13, if_neg h23, if_pos h33]]; rfl)
      · skip
        have h23 : c = 115 := (nI_eq (by omega) (by omega)).mp h23
        refine lv_iconst (v := nI 2) hx hb dX5_sideNamed_26 (by decide) ?_
        refine lv_goto (tgt := 42) hx hb dX5_sideNamed_27 (by decide) ?_
        exact hret _ _ _ dX5_sideNamed_42 (by rw [show sdN c = 2 by unfold sdN; rw [if_neg h3, if_neg h13, if_pos h23]]; rfl)
    · skip
      have h13 : c = 101 := (nI_eq (by omega) (by omega)).mp h13
      refine lv_iconst (v := nI 1) hx hb dX5_sideNamed_16 (by decide) ?_
      refine lv_goto (tgt := 42) hx hb dX5_sideNamed_17 (by decide) ?_
      exact hret _ _ _ dX5_sideNamed_42 (by rw [show sdN c = 1 by unfold sdN; rw [if_neg h3, if_pos h13]]; rfl)
  · skip
    have h3 : c = 110 := (nI_eq (by omega) (by omega)).mp h3
    refine lv_iconst (v := nI 0) hx hb dX5_sideNamed_6 (by decide) ?_
    refine lv_goto (tgt := 42) hx hb dX5_sideNamed_7 (by decide) ?_
    exact hret _ _ _ dX5_sideNamed_42 (by rw [show sdN c = 0 by unfold sdN; rw [if_pos h3]]; rfl)
set_option maxHeartbeats 4000000 in
set_option maxRecDepth 100000 in
theorem kX5_isDigit (l : Launch) (G : zG) (m : Nat → Nat) (σ : Nat → Nat) (V : Nat → Nat → Nat) (ζ : Nat → Nat) (ns : Nat) (x : Nat → Nat) (len : Nat) (B : Nat → Int32) (i : Nat) (hlen : len ≤ 100) (htx : ∀ i, i < 100 → x i < 65536) (hi : i < 2 ^ 31) : Met l yX5_isDigit wsX5_isDigit (zRm 1 22) (zPc G [.ref (m 0), .int (nI i)] (va_P G.1 vwCl (wM G m σ V ζ ns x len B))) (zS (.int (if i < len ∧ (48 ≤ x i ∧ x i ≤ 57) then 1 else 0))) 0 0 (fun _ => False) := by
  refine zmkZ (cc := cX5_isDigit) (maxL := 2) (by decide) rfl (Nat.le_of_ble_eq_true rfl) ?_
  intro pr en st mi ar bl me cd ls Q hx hb hml hown hts hG hP hl hret
  have hown : st.vm.findClass RX5 = some mi.cls := hown
  have hl : lv_has ls 2 [(0, .ref (m 0)), (1, .int (nI i))] := hl
  have hP : va_P G.1 vwCl (wM G m σ V ζ ns x len B) st.heap := hP
  have hinX5 : ∀ w ∈ wsX50, w ∈ wsX5_isDigit := by decide +kernel
  have hf157 := hts (.fieldLink RX5 157 "MapSheetsModel" "typed" "I") (by decide +kernel)
  have hf19 := hts (.fieldLink RX5 19 "MapSheetsModel" "text" "[I") (by decide +kernel)
  refine lv_iload_n hx hb dX5_isDigit_0 rfl (lv_at hl 1 rfl) ?_
  refine lv_aload_n hx hb dX5_isDigit_1 rfl (lv_at hl 0 rfl) ?_
  refine va_get (D := G.1) (ci := 5) (v := .int (nI len)) (C := RX5) (T := TX5) (N := 7) hx hb hts hinX5 hown hG.1 hP 0 rfl rfl 5 (by decide) hf157 (fun _ h9 => h9) rfl dX5_isDigit_2 ?_
  refine lv_icmp_ge (tgt := 28) hx hb dX5_isDigit_5 (by decide) (fun h5 => ?_) (fun h5 => ?_)
  · skip
    have h5 : len ≤ i := (nI_leI (by omega) (by omega)).mp h5
    refine lv_iconst (v := nI 0) hx hb dX5_isDigit_28 (by decide) ?_
    exact hret _ _ _ dX5_isDigit_29 (z_f (by first | exact ⟨by omega, h21⟩ | exact fun q => h21 q.2 | exact fun q => absurd q.1 (by omega)))
  · skip
    have h5 : ¬ (len ≤ i) := fun q => h5 ((nI_leI (by omega) (by omega)).mpr q)
    have hxi := htx i (by omega)
    refine lv_aload_n hx hb dX5_isDigit_8 rfl (lv_at hl 0 rfl) ?_
    refine va_get (D := G.1) (ci := 5) (v := .ref (m 4)) (C := RX5) (T := TX5) (N := 7) hx hb hts hinX5 hown hG.1 hP 0 rfl rfl 4 (by decide) hf19 (fun _ h9 => h9) rfl dX5_isDigit_9 ?_
    refine lv_iload_n hx hb dX5_isDigit_12 rfl (lv_at hl 1 rfl) ?_
    refine va_iald hx hb hG.1 hP 4 0 rfl rfl (vp_in_nI (n := i) (N := 100) (by omega) (by omega)) dX5_isDigit_13 ?_
    refine lv_topi (nm_r (e' := nI (x i)) (by rw [nI_clamp (by omega)]) ?_)
    refine lv_bipush (v := nI 48) hx hb dX5_isDigit_14 (by decide) ?_
    refine lv_bipush (v := nI 57) hx hb dX5_isDigit_16 (by decide) ?_
    refine zrdS (As := [.int (nI (x i)), .int (nI 48), .int (nI 57)]) ⟨hx, hb, hml, hown, hts⟩ (kX5_in l G  (nI (x i)) (nI 48) (nI 57)) (va_cwS 3 hts gX5_isDigit_X5_in rfl rfl rfl (by decide +kernel) ⟨Nat.le_of_ble_eq_true rfl, Nat.le_of_ble_eq_true rfl⟩) hG (trivial) rfl rfl hl.1 dX5_isDigit_18 (Nat.le_of_ble_eq_true rfl) ⟨Nat.le_of_ble_eq_true rfl, Nat.le_of_ble_eq_true rfl⟩ ?_
    refine lv_if_eq (tgt := 28) hx hb dX5_isDigit_21 (by decide) (fun h21 => ?_) (fun h21 => ?_)
    · skip
      have h21 : ¬ (48 ≤ x i ∧ x i ≤ 57) := (z_not (z_rng (by omega))).mp h21
      refine lv_iconst (v := nI 0) hx hb dX5_isDigit_28 (by decide) ?_
      exact hret _ _ _ dX5_isDigit_29 (z_f (by first | exact ⟨by omega, h21⟩ | exact fun q => h21 q.2 | exact fun q => absurd q.1 (by omega)))
    · skip
      have h21 : ¬ (¬ (48 ≤ x i ∧ x i ≤ 57)) := fun q => h21 ((z_not (z_rng (by omega))).mpr q)
      have h21 : 48 ≤ x i ∧ x i ≤ 57 := Decidable.of_not_not h21
      refine lv_iconst (v := nI 1) hx hb dX5_isDigit_24 (by decide) ?_
      refine lv_goto (tgt := 29) hx hb dX5_isDigit_25 (by decide) ?_
      exact hret _ _ _ dX5_isDigit_29 (z_t (by first | exact ⟨by omega, h21⟩ | exact fun q => h21 q.2 | exact fun q => absurd q.1 (by omega)))
set_option maxHeartbeats 4000000 in
set_option maxRecDepth 100000 in
theorem kX5_isAt (l : Launch) (G : zG) (m : Nat → Nat) (σ : Nat → Nat) (V : Nat → Nat → Nat) (ζ : Nat → Nat) (ns : Nat) (x : Nat → Nat) (len : Nat) (B : Nat → Int32) (i : Nat) (c : Nat) (hlen : len ≤ 100) (htx : ∀ i, i < 100 → x i < 65536) (hi : i < 2 ^ 31) (hc : c < 65536) : Met l yX5_isAt wsX5_isAt (zRm 0 0) (zPc G [.ref (m 0), .int (nI i), .int (nI c)] (va_P G.1 vwCl (wM G m σ V ζ ns x len B))) (zS (.int (if i < len ∧ x i = c then 1 else 0))) 0 0 (fun _ => False) := by
  refine zmkZ (cc := cX5_isAt) (maxL := 3) (by decide) rfl (Nat.le_of_ble_eq_true rfl) ?_
  intro pr en st mi ar bl me cd ls Q hx hb hml hown hts hG hP hl hret
  have hown : st.vm.findClass RX5 = some mi.cls := hown
  have hl : lv_has ls 3 [(0, .ref (m 0)), (1, .int (nI i)), (2, .int (nI c))] := hl
  have hP : va_P G.1 vwCl (wM G m σ V ζ ns x len B) st.heap := hP
  have hinX5 : ∀ w ∈ wsX50, w ∈ wsX5_isAt := by decide +kernel
  have hf157 := hts (.fieldLink RX5 157 "MapSheetsModel" "typed" "I") (by decide +kernel)
  have hf19 := hts (.fieldLink RX5 19 "MapSheetsModel" "text" "[I") (by decide +kernel)
  refine lv_iload_n hx hb dX5_isAt_0 rfl (lv_at hl 1 rfl) ?_
  refine lv_aload_n hx hb dX5_isAt_1 rfl (lv_at hl 0 rfl) ?_
  refine va_get (D := G.1) (ci := 5) (v := .int (nI len)) (C := RX5) (T := TX5) (N := 7) hx hb hts hinX5 hown hG.1 hP 0 rfl rfl 5 (by decide) hf157 (fun _ h9 => h9) rfl dX5_isAt_2 ?_
  refine lv_icmp_ge (tgt := 22) hx hb dX5_isAt_5 (by decide) (fun h5 => ?_) (fun h5 => ?_)
  · skip
    have h5 : len ≤ i := (nI_leI (by omega) (by omega)).mp h5
    refine lv_iconst (v := nI 0) hx hb dX5_isAt_22 (by decide) ?_
    exact hret _ _ _ dX5_isAt_23 (z_f (by first | exact ⟨by omega, h15⟩ | exact fun q => h15 q.2 | exact fun q => absurd q.1 (by omega)))
  · skip
    have h5 : ¬ (len ≤ i) := fun q => h5 ((nI_leI (by omega) (by omega)).mpr q)
    have hxi := htx i (by omega)
    refine lv_aload_n hx hb dX5_isAt_8 rfl (lv_at hl 0 rfl) ?_
    refine va_get (D := G.1) (ci := 5) (v := .ref (m 4)) (C := RX5) (T := TX5) (N := 7) hx hb hts hinX5 hown hG.1 hP 0 rfl rfl 4 (by decide) hf19 (fun _ h9 => h9) rfl dX5_isAt_9 ?_
    refine lv_iload_n hx hb dX5_isAt_12 rfl (lv_at hl 1 rfl) ?_
    refine va_iald hx hb hG.1 hP 4 0 rfl rfl (vp_in_nI (n := i) (N := 100) (by omega) (by omega)) dX5_isAt_13 ?_
    refine lv_topi (nm_r (e' := nI (x i)) (by rw [nI_clamp (by omega)]) ?_)
    refine lv_iload_n hx hb dX5_isAt_14 rfl (lv_at hl 2 rfl) ?_
    refine lv_icmp_ne (tgt := 22) hx hb dX5_isAt_15 (by decide) (fun h15 => ?_) (fun h15 => ?_)
    · skip
      have h15 : ¬ ((x i) = c) := fun q => h15 ((nI_eq (by omega) (by omega)).mpr q)
      refine lv_iconst (v := nI 0) hx hb dX5_isAt_22 (by decide) ?_
      exact hret _ _ _ dX5_isAt_23 (z_f (by first | exact ⟨by omega, h15⟩ | exact fun q => h15 q.2 | exact fun q => absurd q.1 (by omega)))
    · skip
      have h15 : (x i) = c := (nI_eq (by omega) (by omega)).mp h15
      refine lv_iconst (v := nI 1) hx hb dX5_isAt_18 (by decide) ?_
      refine lv_goto (tgt := 23) hx hb dX5_isAt_19 (by decide) ?_
      exact hret _ _ _ dX5_isAt_23 (z_t (by first | exact ⟨by omega, h15⟩ | exact fun q => h15 q.2 | exact fun q => absurd q.1 (by omega)))
set_option maxHeartbeats 4000000 in
set_option maxRecDepth 100000 in
theorem kX5_signFor_10 (l : Launch) (G : zG) (m : Nat → Nat) (σ : Nat → Nat) (V : Nat → Nat → Nat) (ζ : Nat → Nat) (ns : Nat) (x : Nat → Nat) (len : Nat) (B : Nat → Int32) (k : Nat) (s : Nat)  : Met l yX5_signFor wsX5_signFor (zRm 1 22) (zPc G [.ref (m 0), .int (nI k), .int (nI s), .int (nI 10)] (va_P G.1 vwCl (wM G m σ V ζ ns x len B))) (zS (.int (nI (10)))) 0 0 (fun _ => False) := by
  refine zmkI (cc := cX5_signFor) (maxL := 5) (by decide) rfl (Nat.le_of_ble_eq_true rfl) ?_
  intro pr en st mi ar bl me cd ls Q hx hb hml hown hts hG hP hl hret
  have hown : st.vm.findClass RX5 = some mi.cls := hown
  have hl : lv_has ls 5 [(0, .ref (m 0)), (1, .int (nI k)), (2, .int (nI s)), (3, .int (nI 10))] := hl
  have hP : va_P G.1 vwCl (wM G m σ V ζ ns x len B) st.heap := hP
  refine lv_iload_n hx hb dX5_signFor_0 rfl (lv_at hl 3 rfl) ?_
  refine lv_bipush (v := nI 10) hx hb dX5_signFor_1 (by decide) ?_
  refine lv_icmp_eq (tgt := 25) hx hb dX5_signFor_3 (by decide) (fun h3 => ?_) (fun h3 => ?_)
  · skip
    have h3 : 10 = 10 := (nI_eq (by omega) (by omega)).mp h3
    refine lv_iload_n hx hb dX5_signFor_25 rfl (lv_at hl 3 rfl) ?_
    refine lv_bipush (v := nI 10) hx hb dX5_signFor_26 (by decide) ?_
    refine lv_icmp_ne (tgt := 36) hx hb dX5_signFor_28 (by decide) (fun h28 => ?_) (fun h28 => ?_)
    · skip
      have h28 : ¬ (10 = 10) := fun q => h28 ((nI_eq (by omega) (by omega)).mpr q)
      exfalso; omega
    · skip
      have h28 : 10 = 10 := (nI_eq (by omega) (by omega)).mp h28
      refine lv_bipush (v := nI 10) hx hb dX5_signFor_31 (by decide) ?_
      refine lv_goto (tgt := 37) hx hb dX5_signFor_33 (by decide) ?_
      exact hret _ _ _ dX5_signFor_37 (congrArg nI (rfl))
  · skip
    have h3 : ¬ (10 = 10) := fun q => h3 ((nI_eq (by omega) (by omega)).mpr q)
    exfalso; omega
set_option maxHeartbeats 4000000 in
set_option maxRecDepth 100000 in
theorem kX5_signFor_s (l : Launch) (G : zG) (m : Nat → Nat) (σ : Nat → Nat) (V : Nat → Nat → Nat) (ζ : Nat → Nat) (ns : Nat) (x : Nat → Nat) (len : Nat) (B : Nat → Int32) {N : Nat} (k : Nat) (s : Nat) (v : Nat) (hO : Ok N σ) (hk : k < 36) (hs9 : s < 10) (hv : v < 10) (he : mng σ k s = v) : Met l yX5_signFor wsX5_signFor (zRm 1 22) (zPc G [.ref (m 0), .int (nI k), .int (nI s), .int (nI v)] (va_P G.1 vwCl (wM G m σ V ζ ns x len B))) (zS (.int (nI (s)))) 0 0 (fun _ => False) := by
  refine zmkI (cc := cX5_signFor) (maxL := 5) (by decide) rfl (Nat.le_of_ble_eq_true rfl) ?_
  intro pr en st mi ar bl me cd ls Q hx hb hml hown hts hG hP hl hret
  have hown : st.vm.findClass RX5 = some mi.cls := hown
  have hl : lv_has ls 5 [(0, .ref (m 0)), (1, .int (nI k)), (2, .int (nI s)), (3, .int (nI v))] := hl
  have hP : va_P G.1 vwCl (wM G m σ V ζ ns x len B) st.heap := hP
  have hc := hO.c
  have hs := hO.lS
  have hr := hO.lR
  have hne := hO.lE
  have hmg := hO.mg hk hs9
  refine lv_iload_n hx hb dX5_signFor_0 rfl (lv_at hl 3 rfl) ?_
  refine lv_bipush (v := nI 10) hx hb dX5_signFor_1 (by decide) ?_
  refine lv_icmp_eq (tgt := 25) hx hb dX5_signFor_3 (by decide) (fun h3 => ?_) (fun h3 => ?_)
  · skip
    have h3 : v = 10 := (nI_eq (by omega) (by omega)).mp h3
    exfalso; omega
  · skip
    have h3 : ¬ (v = 10) := fun q => h3 ((nI_eq (by omega) (by omega)).mpr q)
    refine lv_iload_n hx hb dX5_signFor_6 rfl (lv_at hl 2 rfl) ?_
    refine lv_bipush (v := nI 10) hx hb dX5_signFor_7 (by decide) ?_
    refine lv_icmp_eq (tgt := 38) hx hb dX5_signFor_9 (by decide) (fun h9 => ?_) (fun h9 => ?_)
    · skip
      have h9 : s = 10 := (nI_eq (by omega) (by omega)).mp h9
      exfalso; omega
    · skip
      have h9 : ¬ (s = 10) := fun q => h9 ((nI_eq (by omega) (by omega)).mpr q)
      refine lv_aload_n hx hb dX5_signFor_12 rfl (lv_at hl 0 rfl) ?_
      refine lv_iload_n hx hb dX5_signFor_13 rfl (lv_at hl 1 rfl) ?_
      refine lv_bipush (v := nI 40) hx hb dX5_signFor_14 (by decide) ?_
      refine lv_iload_n hx hb dX5_signFor_16 rfl (lv_at hl 2 rfl) ?_
      refine lv_iadd hx hb dX5_signFor_17 ?_
      refine lv_topi (nm_r (e' := nI (40 + s)) (nI_add _ _) ?_)
      refine zrdV (As := [.int (nI k), .int (nI (40 + s))]) ⟨hx, hb, hml, hown, hts⟩ (kX5_of l G m σ V ζ ns x len B k (40 + s) (by omega) (by omega) (by omega)) (cwV 2 hts gX5_signFor_X5_of rfl rfl rfl (by decide +kernel) ⟨Nat.le_of_ble_eq_true rfl, Nat.le_of_ble_eq_true rfl⟩) hG (va_recv (q0 := 0) (ci := 5) hG.1 hP rfl rfl) (hP) rfl rfl hl.1 dX5_signFor_18 (Nat.le_of_ble_eq_true rfl) ⟨Nat.le_of_ble_eq_true rfl, Nat.le_of_ble_eq_true rfl⟩ ?_
      refine lv_topi (nm_r (e' := nI (mng σ k s)) (by unfold mng; rw [show 104 + 53 * k + s = 64 + 53 * k + (40 + s) by omega]) ?_)
      refine lv_iload_n hx hb dX5_signFor_21 rfl (lv_at hl 3 rfl) ?_
      refine lv_icmp_ne (tgt := 38) hx hb dX5_signFor_22 (by decide) (fun h22 => ?_) (fun h22 => ?_)
      · skip
        have h22 : ¬ ((mng σ k s) = v) := fun q => h22 ((nI_eq (by omega) (by omega)).mpr q)
        exact absurd he h22
      · skip
        have h22 : (mng σ k s) = v := (nI_eq (by omega) (by omega)).mp h22
        refine lv_iload_n hx hb dX5_signFor_25 rfl (lv_at hl 3 rfl) ?_
        refine lv_bipush (v := nI 10) hx hb dX5_signFor_26 (by decide) ?_
        refine lv_icmp_ne (tgt := 36) hx hb dX5_signFor_28 (by decide) (fun h28 => ?_) (fun h28 => ?_)
        · skip
          have h28 : ¬ (v = 10) := fun q => h28 ((nI_eq (by omega) (by omega)).mpr q)
          refine lv_iload_n hx hb dX5_signFor_36 rfl (lv_at hl 2 rfl) ?_
          exact hret _ _ _ dX5_signFor_37 (congrArg nI (rfl))
        · skip
          have h28 : v = 10 := (nI_eq (by omega) (by omega)).mp h28
          exfalso; omega
set_option maxHeartbeats 4000000 in
set_option maxRecDepth 100000 in
theorem kX5_signFor_l (l : Launch) (G : zG) (m : Nat → Nat) (σ : Nat → Nat) (V : Nat → Nat → Nat) (ζ : Nat → Nat) (ns : Nat) (x : Nat → Nat) (len : Nat) (B : Nat → Int32) {N : Nat} (k : Nat) (s : Nat) (v : Nat) (hO : Ok N σ) (hk : k < 36) (hs10 : s ≤ 10) (hv : v < 10) (he : ¬ (s < 10 ∧ mng σ k s = v)) : Met l yX5_signFor wsX5_signFor (zRm 1 22) (zPc G [.ref (m 0), .int (nI k), .int (nI s), .int (nI v)] (va_P G.1 vwCl (wM G m σ V ζ ns x len B))) (zS (.int (zc 10 (lws σ k v)))) 0 0 (fun _ => False) := by
  refine zmkI (cc := cX5_signFor) (maxL := 5) (by decide) rfl (Nat.le_of_ble_eq_true rfl) ?_
  intro pr en st mi ar bl me cd ls Q hx hb hml hown hts hG hP hl hret
  have hown : st.vm.findClass RX5 = some mi.cls := hown
  have hl : lv_has ls 5 [(0, .ref (m 0)), (1, .int (nI k)), (2, .int (nI s)), (3, .int (nI v))] := hl
  have hP : va_P G.1 vwCl (wM G m σ V ζ ns x len B) st.heap := hP
  have hc := hO.c
  have hs := hO.lS
  have hr := hO.lR
  have hne := hO.lE
  refine lv_iload_n hx hb dX5_signFor_0 rfl (lv_at hl 3 rfl) ?_
  refine lv_bipush (v := nI 10) hx hb dX5_signFor_1 (by decide) ?_
  refine lv_icmp_eq (tgt := 25) hx hb dX5_signFor_3 (by decide) (fun h3 => ?_) (fun h3 => ?_)
  · skip
    have h3 : v = 10 := (nI_eq (by omega) (by omega)).mp h3
    exfalso; omega
  · skip
    have h3 : ¬ (v = 10) := fun q => h3 ((nI_eq (by omega) (by omega)).mpr q)
    refine lv_iload_n hx hb dX5_signFor_6 rfl (lv_at hl 2 rfl) ?_
    refine lv_bipush (v := nI 10) hx hb dX5_signFor_7 (by decide) ?_
    refine lv_icmp_eq (tgt := 38) hx hb dX5_signFor_9 (by decide) (fun h9 => ?_) (fun h9 => ?_)
    · skip
      have h9 : s = 10 := (nI_eq (by omega) (by omega)).mp h9
      refine lv_iconst (v := nI 0) hx hb dX5_signFor_38 (by decide) ?_
      refine lv_istore (lv' := [(4, .int (nI 0)), (0, .ref (m 0)), (1, .int (nI k)), (2, .int (nI s)), (3, .int (nI v))]) hx hb dX5_signFor_39 hl (by decide) rfl (fun ls hl => ?_)
      have loop41 : ∀ (n : Nat) (i : Nat) (hz : ∀ j, j < i → decide (mng σ k j = v) = false) (hi : i ≤ 10) (hn : 10 < i + n) (ls : Array Slot) (hl : lv_has ls 5 [(0, .ref (m 0)), (1, .int (nI k)), (2, .int (nI s)), (3, .int (nI v)), (4, .int (nI i))]), W pr l en (zRm 1 22) st mi ar bl me cd st.heap [] 0 0 Q (F0 mi 41 ls []) := by
        intro n
        induction n with
        | zero => intro i hz hi hn ls hl; exfalso; omega
        | succ n ih41 =>
          intro i hz hi hn ls hl
          refine lv_iload hx hb dX5_signFor_41 (lv_at hl 4 rfl) ?_
          refine lv_bipush (v := nI 10) hx hb dX5_signFor_43 (by decide) ?_
          refine lv_icmp_ge (tgt := 71) hx hb dX5_signFor_45 (by decide) (fun h45 => ?_) (fun h45 => ?_)
          · skip
            have h45 : 10 ≤ i := (nI_leI (by omega) (by omega)).mp h45
            refine lv_bipush (v := (-4)) hx hb dX5_signFor_71 (by decide) ?_
            exact hret _ _ _ dX5_signFor_73 (by rw [show lws σ k v = 10 from fst1_no (fun j hj => hz j (by omega)), zc_b])
          · skip
            have h45 : ¬ (10 ≤ i) := fun q => h45 ((nI_leI (by omega) (by omega)).mpr q)
            have hmg := hO.mg hk (show i < 10 by omega)
            refine lv_aload_n hx hb dX5_signFor_48 rfl (lv_at hl 0 rfl) ?_
            refine lv_iload_n hx hb dX5_signFor_49 rfl (lv_at hl 1 rfl) ?_
            refine lv_bipush (v := nI 40) hx hb dX5_signFor_50 (by decide) ?_
            refine lv_iload hx hb dX5_signFor_52 (lv_at hl 4 rfl) ?_
            refine lv_iadd hx hb dX5_signFor_54 ?_
            refine lv_topi (nm_r (e' := nI (40 + i)) (nI_add _ _) ?_)
            refine zrdV (As := [.int (nI k), .int (nI (40 + i))]) ⟨hx, hb, hml, hown, hts⟩ (kX5_of l G m σ V ζ ns x len B k (40 + i) (by omega) (by omega) (by omega)) (cwV 2 hts gX5_signFor_X5_of rfl rfl rfl (by decide +kernel) ⟨Nat.le_of_ble_eq_true rfl, Nat.le_of_ble_eq_true rfl⟩) hG (va_recv (q0 := 0) (ci := 5) hG.1 hP rfl rfl) (hP) rfl rfl hl.1 dX5_signFor_55 (Nat.le_of_ble_eq_true rfl) ⟨Nat.le_of_ble_eq_true rfl, Nat.le_of_ble_eq_true rfl⟩ ?_
            refine lv_topi (nm_r (e' := nI (mng σ k i)) (by unfold mng; rw [show 104 + 53 * k + i = 64 + 53 * k + (40 + i) by omega]) ?_)
            refine lv_iload_n hx hb dX5_signFor_58 rfl (lv_at hl 3 rfl) ?_
            refine lv_icmp_ne (tgt := 65) hx hb dX5_signFor_59 (by decide) (fun h59 => ?_) (fun h59 => ?_)
            · skip
              have h59 : ¬ ((mng σ k i) = v) := fun q => h59 ((nI_eq (by omega) (by omega)).mpr q)
              refine lv_iinc (v := nI (i + 1)) (lv' := [(4, .int (nI (i + 1))), (0, .ref (m 0)), (1, .int (nI k)), (2, .int (nI s)), (3, .int (nI v))]) hx hb dX5_signFor_65 hl (k := 4) rfl (zinc1 _) (by decide) rfl (fun ls hl => ?_)
              refine lv_goto (tgt := 41) hx hb dX5_signFor_68 (by decide) ?_
              exact ih41 (i + 1) (fun j hj => by rcases Nat.lt_succ_iff_lt_or_eq.mp hj with q | q; exact hz j q; rw [q]; simp [h59]) (by omega) (by omega) _ (lv_sub hl [1, 2, 3, 4, 0] rfl)
            · skip
              have h59 : (mng σ k i) = v := (nI_eq (by omega) (by omega)).mp h59
              refine lv_iload hx hb dX5_signFor_62 (lv_at hl 4 rfl) ?_
              exact hret _ _ _ dX5_signFor_64 (by rw [show lws σ k v = i from fst1_at (by omega) hz (by simp [h59]), zc_n (by omega)])
      exact loop41 11 0 (fun j hj => absurd hj (Nat.not_lt_zero j)) (by omega) (by omega) _ (lv_sub hl [1, 2, 3, 4, 0] rfl)
    · skip
      have h9 : ¬ (s = 10) := fun q => h9 ((nI_eq (by omega) (by omega)).mpr q)
      have hmg := hO.mg hk (show s < 10 by omega)
      refine lv_aload_n hx hb dX5_signFor_12 rfl (lv_at hl 0 rfl) ?_
      refine lv_iload_n hx hb dX5_signFor_13 rfl (lv_at hl 1 rfl) ?_
      refine lv_bipush (v := nI 40) hx hb dX5_signFor_14 (by decide) ?_
      refine lv_iload_n hx hb dX5_signFor_16 rfl (lv_at hl 2 rfl) ?_
      refine lv_iadd hx hb dX5_signFor_17 ?_
      refine lv_topi (nm_r (e' := nI (40 + s)) (nI_add _ _) ?_)
      refine zrdV (As := [.int (nI k), .int (nI (40 + s))]) ⟨hx, hb, hml, hown, hts⟩ (kX5_of l G m σ V ζ ns x len B k (40 + s) (by omega) (by omega) (by omega)) (cwV 2 hts gX5_signFor_X5_of rfl rfl rfl (by decide +kernel) ⟨Nat.le_of_ble_eq_true rfl, Nat.le_of_ble_eq_true rfl⟩) hG (va_recv (q0 := 0) (ci := 5) hG.1 hP rfl rfl) (hP) rfl rfl hl.1 dX5_signFor_18 (Nat.le_of_ble_eq_true rfl) ⟨Nat.le_of_ble_eq_true rfl, Nat.le_of_ble_eq_true rfl⟩ ?_
      refine lv_topi (nm_r (e' := nI (mng σ k s)) (by unfold mng; rw [show 104 + 53 * k + s = 64 + 53 * k + (40 + s) by omega]) ?_)
      refine lv_iload_n hx hb dX5_signFor_21 rfl (lv_at hl 3 rfl) ?_
      refine lv_icmp_ne (tgt := 38) hx hb dX5_signFor_22 (by decide) (fun h22 => ?_) (fun h22 => ?_)
      · skip
        have h22 : ¬ ((mng σ k s) = v) := fun q => h22 ((nI_eq (by omega) (by omega)).mpr q)
        refine lv_iconst (v := nI 0) hx hb dX5_signFor_38 (by decide) ?_
        refine lv_istore (lv' := [(4, .int (nI 0)), (0, .ref (m 0)), (1, .int (nI k)), (2, .int (nI s)), (3, .int (nI v))]) hx hb dX5_signFor_39 hl (by decide) rfl (fun ls hl => ?_)
        have loop41 : ∀ (n : Nat) (i : Nat) (hz : ∀ j, j < i → decide (mng σ k j = v) = false) (hi : i ≤ 10) (hn : 10 < i + n) (ls : Array Slot) (hl : lv_has ls 5 [(0, .ref (m 0)), (1, .int (nI k)), (2, .int (nI s)), (3, .int (nI v)), (4, .int (nI i))]), W pr l en (zRm 1 22) st mi ar bl me cd st.heap [] 0 0 Q (F0 mi 41 ls []) := by
          intro n
          induction n with
          | zero => intro i hz hi hn ls hl; exfalso; omega
          | succ n ih41 =>
            intro i hz hi hn ls hl
            refine lv_iload hx hb dX5_signFor_41 (lv_at hl 4 rfl) ?_
            refine lv_bipush (v := nI 10) hx hb dX5_signFor_43 (by decide) ?_
            refine lv_icmp_ge (tgt := 71) hx hb dX5_signFor_45 (by decide) (fun h45 => ?_) (fun h45 => ?_)
            · skip
              have h45 : 10 ≤ i := (nI_leI (by omega) (by omega)).mp h45
              refine lv_bipush (v := (-4)) hx hb dX5_signFor_71 (by decide) ?_
              exact hret _ _ _ dX5_signFor_73 (by rw [show lws σ k v = 10 from fst1_no (fun j hj => hz j (by omega)), zc_b])
            · skip
              have h45 : ¬ (10 ≤ i) := fun q => h45 ((nI_leI (by omega) (by omega)).mpr q)
              have hmg := hO.mg hk (show i < 10 by omega)
              refine lv_aload_n hx hb dX5_signFor_48 rfl (lv_at hl 0 rfl) ?_
              refine lv_iload_n hx hb dX5_signFor_49 rfl (lv_at hl 1 rfl) ?_
              refine lv_bipush (v := nI 40) hx hb dX5_signFor_50 (by decide) ?_
              refine lv_iload hx hb dX5_signFor_52 (lv_at hl 4 rfl) ?_
              refine lv_iadd hx hb dX5_signFor_54 ?_
              refine lv_topi (nm_r (e' := nI (40 + i)) (nI_add _ _) ?_)
              refine zrdV (As := [.int (nI k), .int (nI (40 + i))]) ⟨hx, hb, hml, hown, hts⟩ (kX5_of l G m σ V ζ ns x len B k (40 + i) (by omega) (by omega) (by omega)) (cwV 2 hts gX5_signFor_X5_of rfl rfl rfl (by decide +kernel) ⟨Nat.le_of_ble_eq_true rfl, Nat.le_of_ble_eq_true rfl⟩) hG (va_recv (q0 := 0) (ci := 5) hG.1 hP rfl rfl) (hP) rfl rfl hl.1 dX5_signFor_55 (Nat.le_of_ble_eq_true rfl) ⟨Nat.le_of_ble_eq_true rfl, Nat.le_of_ble_eq_true rfl⟩ ?_
              refine lv_topi (nm_r (e' := nI (mng σ k i)) (by unfold mng; rw [show 104 + 53 * k + i = 64 + 53 * k + (40 + i) by omega]) ?_)
              refine lv_iload_n hx hb dX5_signFor_58 rfl (lv_at hl 3 rfl) ?_
              refine lv_icmp_ne (tgt := 65) hx hb dX5_signFor_59 (by decide) (fun h59 => ?_) (fun h59 => ?_)
              · skip
                have h59 : ¬ ((mng σ k i) = v) := fun q => h59 ((nI_eq (by omega) (by omega)).mpr q)
                refine lv_iinc (v := nI (i + 1)) (lv' := [(4, .int (nI (i + 1))), (0, .ref (m 0)), (1, .int (nI k)), (2, .int (nI s)), (3, .int (nI v))]) hx hb dX5_signFor_65 hl (k := 4) rfl (zinc1 _) (by decide) rfl (fun ls hl => ?_)
                refine lv_goto (tgt := 41) hx hb dX5_signFor_68 (by decide) ?_
                exact ih41 (i + 1) (fun j hj => by rcases Nat.lt_succ_iff_lt_or_eq.mp hj with q | q; exact hz j q; rw [q]; simp [h59]) (by omega) (by omega) _ (lv_sub hl [1, 2, 3, 4, 0] rfl)
              · skip
                have h59 : (mng σ k i) = v := (nI_eq (by omega) (by omega)).mp h59
                refine lv_iload hx hb dX5_signFor_62 (lv_at hl 4 rfl) ?_
                exact hret _ _ _ dX5_signFor_64 (by rw [show lws σ k v = i from fst1_at (by omega) hz (by simp [h59]), zc_n (by omega)])
        exact loop41 11 0 (fun j hj => absurd hj (Nat.not_lt_zero j)) (by omega) (by omega) _ (lv_sub hl [1, 2, 3, 4, 0] rfl)
      · skip
        have h22 : (mng σ k s) = v := (nI_eq (by omega) (by omega)).mp h22
        exact absurd ⟨by omega, h22⟩ he
set_option maxHeartbeats 4000000 in
set_option maxRecDepth 100000 in
theorem kX5_puts (l : Launch) (G : zG) (m : Nat → Nat) (σ : Nat → Nat) (V : Nat → Nat → Nat) (ζ : Nat → Nat) (ns : Nat) (x : Nat → Nat) (len : Nat) (B : Nat → Int32) (k : Nat) (w : Nat) (v : Nat) (hk : k < 36) (hw : w < 53) (hw2 : w ≠ 51) (hd : va_D (fun _ => True) (wM G m σ V ζ ns x len B)) : Met l yX5_puts wsX5_puts (zRm 0 0) (zPc G [.ref (m 0), .int (nI k), .int (nI w), .int (nI v)] (va_P G.1 vwCl (wM G m σ V ζ ns x len B))) (zQ (zA (wM G m σ V ζ ns x len B)) none (va_P G.1 vwCl (wM G m (su σ (64 + 53 * k + w) v) V ζ ns x len B))) 0 0 (zA (wM G m σ V ζ ns x len B)) := by
  refine zmkWv (w := (wM G m σ V ζ ns x len B)) hd (cc := cX5_puts) (maxL := 4) (by decide) rfl (Nat.le_of_ble_eq_true rfl) ?_
  intro pr en st mi ar bl me cd ls Q hx hb hml hown hts hG hP hl hD hS hret
  have hown : st.vm.findClass RX5 = some mi.cls := hown
  have hl : lv_has ls 4 [(0, .ref (m 0)), (1, .int (nI k)), (2, .int (nI w)), (3, .int (nI v))] := hl
  have hP : va_P G.1 vwCl (wM G m σ V ζ ns x len B) st.heap := hP
  have hD : va_D (zA (wM G m σ V ζ ns x len B)) (wM G m σ V ζ ns x len B) := hD
  have hinX5 : ∀ w ∈ wsX50, w ∈ wsX5_puts := by decide +kernel
  have hf7 := hts (.fieldLink RX5 7 "MapSheetsModel" "s" "[I") (by decide +kernel)
  refine lv_aload_n hx hb dX5_puts_0 rfl (lv_at hl 0 rfl) ?_
  refine va_get (D := G.1) (ci := 5) (v := .ref (m 1)) (C := RX5) (T := TX5) (N := 7) hx hb hts hinX5 hown hG.1 hP 0 rfl rfl 0 (by decide) hf7 (fun _ h9 => h9) rfl dX5_puts_1 ?_
  refine lv_bipush (v := nI 64) hx hb dX5_puts_4 (by decide) ?_
  refine lv_bipush (v := nI 53) hx hb dX5_puts_6 (by decide) ?_
  refine lv_iload_n hx hb dX5_puts_8 rfl (lv_at hl 1 rfl) ?_
  refine lv_imul hx hb dX5_puts_9 ?_
  refine lv_topi (nm_r (e' := nI (53 * k)) (pk_mul _ _) ?_)
  refine lv_iadd hx hb dX5_puts_10 ?_
  refine lv_topi (nm_r (e' := nI (64 + (53 * k))) (nI_add _ _) ?_)
  refine lv_iload_n hx hb dX5_puts_11 rfl (lv_at hl 2 rfl) ?_
  refine lv_iadd hx hb dX5_puts_12 ?_
  refine lv_topi (nm_r (e' := nI ((64 + (53 * k)) + w)) (nI_add _ _) ?_)
  refine lv_iload_n hx hb dX5_puts_13 rfl (lv_at hl 3 rfl) ?_
  refine va_iast hx hb hG.1 hP hD hS 1 0 rfl rfl (vp_in_nI (n := (64 + (53 * k)) + w) (N := 1972) (by omega) (by omega)) dX5_puts_14 (fun H locs hP hD hS => ?_)
  rw [nI_clamp (show (64 + (53 * k)) + w < 2 ^ 31 by omega)] at hP hD
  rw [sF_su (by omega)] at hP hD
  have hP : va_P G.1 vwCl (wM G m (su σ ((64 + (53 * k)) + w) v) V ζ ns x len B) H := hP
  have hD : va_D (zA (wM G m σ V ζ ns x len B)) (wM G m (su σ ((64 + (53 * k)) + w) v) V ζ ns x len B) := hD
  exact hret _ _ _ _ dX5_puts_15 hS (hP)
set_option maxHeartbeats 4000000 in
set_option maxRecDepth 100000 in
theorem kX5_puts_p (l : Launch) (G : zG) (m : Nat → Nat) (σ : Nat → Nat) (V : Nat → Nat → Nat) (ζ : Nat → Nat) (ns : Nat) (x : Nat → Nat) (len : Nat) (B : Nat → Int32) (k : Nat) (v : Nat) (hk : k < 36) (hd : va_D (fun _ => True) (wM G m σ V ζ ns x len B)) : Met l yX5_puts wsX5_puts (zRm 0 0) (zPc G [.ref (m 0), .int (nI k), .int (nI 51), .int (nI v)] (va_P G.1 vwCl (wM G m σ V ζ ns x len B))) (zQ (zA (wM G m σ V ζ ns x len B)) none (va_P G.1 vwCl (wM G m (su σ (115 + 53 * k) (v + 1)) V ζ ns x len B))) 0 0 (zA (wM G m σ V ζ ns x len B)) := by
  refine zmkWv (w := (wM G m σ V ζ ns x len B)) hd (cc := cX5_puts) (maxL := 4) (by decide) rfl (Nat.le_of_ble_eq_true rfl) ?_
  intro pr en st mi ar bl me cd ls Q hx hb hml hown hts hG hP hl hD hS hret
  have hown : st.vm.findClass RX5 = some mi.cls := hown
  have hl : lv_has ls 4 [(0, .ref (m 0)), (1, .int (nI k)), (2, .int (nI 51)), (3, .int (nI v))] := hl
  have hP : va_P G.1 vwCl (wM G m σ V ζ ns x len B) st.heap := hP
  have hD : va_D (zA (wM G m σ V ζ ns x len B)) (wM G m σ V ζ ns x len B) := hD
  have hinX5 : ∀ w ∈ wsX50, w ∈ wsX5_puts := by decide +kernel
  have hf7 := hts (.fieldLink RX5 7 "MapSheetsModel" "s" "[I") (by decide +kernel)
  refine lv_aload_n hx hb dX5_puts_0 rfl (lv_at hl 0 rfl) ?_
  refine va_get (D := G.1) (ci := 5) (v := .ref (m 1)) (C := RX5) (T := TX5) (N := 7) hx hb hts hinX5 hown hG.1 hP 0 rfl rfl 0 (by decide) hf7 (fun _ h9 => h9) rfl dX5_puts_1 ?_
  refine lv_bipush (v := nI 64) hx hb dX5_puts_4 (by decide) ?_
  refine lv_bipush (v := nI 53) hx hb dX5_puts_6 (by decide) ?_
  refine lv_iload_n hx hb dX5_puts_8 rfl (lv_at hl 1 rfl) ?_
  refine lv_imul hx hb dX5_puts_9 ?_
  refine lv_topi (nm_r (e' := nI (53 * k)) (pk_mul _ _) ?_)
  refine lv_iadd hx hb dX5_puts_10 ?_
  refine lv_topi (nm_r (e' := nI (64 + (53 * k))) (nI_add _ _) ?_)
  refine lv_iload_n hx hb dX5_puts_11 rfl (lv_at hl 2 rfl) ?_
  refine lv_iadd hx hb dX5_puts_12 ?_
  refine lv_topi (nm_r (e' := nI ((64 + (53 * k)) + 51)) (nI_add _ _) ?_)
  refine lv_iload_n hx hb dX5_puts_13 rfl (lv_at hl 3 rfl) ?_
  refine va_iast hx hb hG.1 hP hD hS 1 0 rfl rfl (vp_in_nI (n := (64 + (53 * k)) + 51) (N := 1972) (by omega) (by omega)) dX5_puts_14 (fun H locs hP hD hS => ?_)
  rw [nI_clamp (show (64 + (53 * k)) + 51 < 2 ^ 31 by omega)] at hP hD
  rw [sF_sup] at hP hD
  have hP : va_P G.1 vwCl (wM G m (su σ (115 + 53 * k) (v + 1)) V ζ ns x len B) H := hP
  have hD : va_D (zA (wM G m σ V ζ ns x len B)) (wM G m (su σ (115 + 53 * k) (v + 1)) V ζ ns x len B) := hD
  exact hret _ _ _ _ dX5_puts_15 hS (hP)
set_option maxHeartbeats 4000000 in
set_option maxRecDepth 100000 in
theorem kX5_revises (l : Launch) (G : zG) (m : Nat → Nat) (σ : Nat → Nat) (V : Nat → Nat → Nat) (ζ : Nat → Nat) (ns : Nat) (x : Nat → Nat) (len : Nat) (B : Nat → Int32) (k : Nat) (hk : k < 36) (hd : va_D (fun _ => True) (wM G m σ V ζ ns x len B)) : Met l yX5_revises wsX5_revises (zRm 1 23) (zPc G [.ref (m 0), .int (nI k)] (va_P G.1 vwCl (wM G m σ V ζ ns x len B))) (zQ (zA (wM G m σ V ζ ns x len B)) none (va_P G.1 vwCl (wM G m (su σ (114 + 53 * k) (rvn σ k + 1)) V ζ ns x len B))) 0 0 (zA (wM G m σ V ζ ns x len B)) := by
  refine zmkWv (w := (wM G m σ V ζ ns x len B)) hd (cc := cX5_revises) (maxL := 2) (by decide) rfl (Nat.le_of_ble_eq_true rfl) ?_
  intro pr en st mi ar bl me cd ls Q hx hb hml hown hts hG hP hl hD hS hret
  have hown : st.vm.findClass RX5 = some mi.cls := hown
  have hl : lv_has ls 2 [(0, .ref (m 0)), (1, .int (nI k))] := hl
  have hP : va_P G.1 vwCl (wM G m σ V ζ ns x len B) st.heap := hP
  have hD : va_D (zA (wM G m σ V ζ ns x len B)) (wM G m σ V ζ ns x len B) := hD
  refine lv_aload_n hx hb dX5_revises_0 rfl (lv_at hl 0 rfl) ?_
  refine lv_iload_n hx hb dX5_revises_1 rfl (lv_at hl 1 rfl) ?_
  refine lv_bipush (v := nI 50) hx hb dX5_revises_2 (by decide) ?_
  refine lv_aload_n hx hb dX5_revises_4 rfl (lv_at hl 0 rfl) ?_
  refine lv_iload_n hx hb dX5_revises_5 rfl (lv_at hl 1 rfl) ?_
  refine lv_bipush (v := nI 50) hx hb dX5_revises_6 (by decide) ?_
  refine zrdV (As := [.int (nI k), .int (nI 50)]) ⟨hx, hb, hml, hown, hts⟩ (kX5_of l G m σ V ζ ns x len B k 50 (by omega) (by omega) (by omega)) (cwV 2 hts gX5_revises_X5_of rfl rfl rfl (by decide +kernel) ⟨Nat.le_of_ble_eq_true rfl, Nat.le_of_ble_eq_true rfl⟩) hG (va_recv (q0 := 0) (ci := 5) hG.1 hP rfl rfl) (hP) rfl rfl hl.1 dX5_revises_8 (Nat.le_of_ble_eq_true rfl) ⟨Nat.le_of_ble_eq_true rfl, Nat.le_of_ble_eq_true rfl⟩ ?_
  refine lv_iconst (v := nI 1) hx hb dX5_revises_11 (by decide) ?_
  refine lv_iadd hx hb dX5_revises_12 ?_
  refine lv_topi (nm_r (e' := nI ((σ (64 + 53 * k + 50)) + 1)) (nI_add _ _) ?_)
  refine zwrWv (G := G) (wc := (wM G m σ V ζ ns x len B)) (wc' := (wM G m (su σ (64 + 53 * k + 50) ((σ (64 + 53 * k + 50)) + 1)) V ζ ns x len B)) (va_runV (As := [.int (nI k), .int (nI 50), .int (nI ((σ (64 + 53 * k + 50)) + 1))]) (rest := []) ⟨hx, hb, hml, hown, hts⟩ (kX5_puts l G m σ V ζ ns x len B k 50 ((σ (64 + 53 * k + 50)) + 1) (by omega) (by omega) (by omega) (zD_any hD)) (cwV 3 hts gX5_revises_X5_puts rfl rfl rfl (by decide +kernel) ⟨Nat.le_of_ble_eq_true rfl, Nat.le_of_ble_eq_true rfl⟩) (zPreV hG (va_recv (q0 := 0) (ci := 5) hG.1 hP rfl rfl) (hP)) rfl rfl hl.1 rfl (lv_room (Nat.le_of_ble_eq_true rfl)) dX5_revises_13 ⟨Nat.le_of_ble_eq_true rfl, Nat.le_of_ble_eq_true rfl⟩) hP hD hS (wM_map ..) (fun H locs hP hD hS => ?_)
  have hP : va_P G.1 vwCl (wM G m (su σ (64 + 53 * k + 50) ((σ (64 + 53 * k + 50)) + 1)) V ζ ns x len B) H := hP
  have hD : va_D (zA (wM G m σ V ζ ns x len B)) (wM G m (su σ (64 + 53 * k + 50) ((σ (64 + 53 * k + 50)) + 1)) V ζ ns x len B) := hD
  exact hret _ _ _ _ dX5_revises_16 hS (by rw [show 64 + 53 * k + 50 = 114 + 53 * k by omega] at hP; exact hP)
set_option maxHeartbeats 4000000 in
set_option maxRecDepth 100000 in
theorem kX5_hold (l : Launch) (G : zG) (m : Nat → Nat) (σ : Nat → Nat) (V : Nat → Nat → Nat) (ζ : Nat → Nat) (ns : Nat) (x : Nat → Nat) (len : Nat) (B : Nat → Int32)  (hd : va_D (fun _ => True) (wM G m σ V ζ ns x len B)) : Met l yX5_hold wsX5_hold (zRm 0 0) (zPc G [.ref (m 0)] (va_P G.1 vwCl (wM G m σ V ζ ns x len B))) (zQ (zA (wM G m σ V ζ ns x len B)) none (va_P G.1 vwCl (wM G m σ V σ ns x len B))) 0 0 (zA (wM G m σ V ζ ns x len B)) := by
  refine zmkWv (w := (wM G m σ V ζ ns x len B)) hd (cc := cX5_hold) (maxL := 2) (by decide) rfl (Nat.le_of_ble_eq_true rfl) ?_
  intro pr en st mi ar bl me cd ls Q hx hb hml hown hts hG hP hl hD hS hret
  have hown : st.vm.findClass RX5 = some mi.cls := hown
  have hl : lv_has ls 2 [(0, .ref (m 0))] := hl
  have hP : va_P G.1 vwCl (wM G m σ V ζ ns x len B) st.heap := hP
  have hD : va_D (zA (wM G m σ V ζ ns x len B)) (wM G m σ V ζ ns x len B) := hD
  have hinX5 : ∀ w ∈ wsX50, w ∈ wsX5_hold := by decide +kernel
  have hf16 := hts (.fieldLink RX5 16 "MapSheetsModel" "aside" "[I") (by decide +kernel)
  have hf7 := hts (.fieldLink RX5 7 "MapSheetsModel" "s" "[I") (by decide +kernel)
  refine lv_iconst (v := nI 0) hx hb dX5_hold_0 (by decide) ?_
  refine lv_istore_n (lv' := [(1, .int (nI 0)), (0, .ref (m 0))]) hx hb dX5_hold_1 rfl hl (by decide) rfl (fun ls hl => ?_)
  have loop2 : ∀ (n : Nat) (i : Nat) (g : Nat → Int32) (hg : ∀ j, j < i → g j = sF σ j) (hi : i ≤ 1972) (hn : 1972 < i + n) (ls : Array Slot) (hl : lv_has ls 2 [(0, .ref (m 0)), (1, .int (nI i))]) (H : Heap) (locs : List Loc) (hP : va_P G.1 vwCl [(m 0, .inr (5, [.ref (m 1), .ref (m 2), .ref (m 3), .int (nI ns), .ref (m 4), .int (nI len), .ref (m 5)])), (m 1, .inl (G.2.1, 1972, .inl (sF σ))), (m 2, .inl (G.2.1, 7888, .inl (wF V))), (m 3, .inl (G.2.1, 1972, .inl g)), (m 4, .inl (G.2.1, 100, .inl (fun i => nI (x i)))), (m 5, .inl (G.2.1, 36, .inl B))] H) (hD : va_D (zA (wM G m σ V ζ ns x len B)) [(m 0, .inr (5, [.ref (m 1), .ref (m 2), .ref (m 3), .int (nI ns), .ref (m 4), .int (nI len), .ref (m 5)])), (m 1, .inl (G.2.1, 1972, .inl (sF σ))), (m 2, .inl (G.2.1, 7888, .inl (wF V))), (m 3, .inl (G.2.1, 1972, .inl g)), (m 4, .inl (G.2.1, 100, .inl (fun i => nI (x i)))), (m 5, .inl (G.2.1, 36, .inl B))]) (hS : va_S (zA (wM G m σ V ζ ns x len B)) st.heap H locs), W pr l en (zRm 0 0) st mi ar bl me cd H locs 0 0 Q (F0 mi 2 ls []) := by
    intro n
    induction n with
    | zero => intro i g hg hi hn ls hl H locs hP hD hS; exfalso; omega
    | succ n ih2 =>
      intro i g hg hi hn ls hl H locs hP hD hS
      refine lv_iload_n hx hb dX5_hold_2 rfl (lv_at hl 1 rfl) ?_
      refine lv_sipush (v := nI 1972) hx hb dX5_hold_3 (by decide) ?_
      refine lv_icmp_ge (tgt := 27) hx hb dX5_hold_6 (by decide) (fun h6 => ?_) (fun h6 => ?_)
      · skip
        have h6 : 1972 ≤ i := (nI_leI (by omega) (by omega)).mp h6
        exact hret _ _ _ _ dX5_hold_27 hS (wM_s (fun j _ => rfl) (fun j _ => rfl) (fun j hj => hg j (by omega)) (fun j _ => rfl) hP)
      · skip
        have h6 : ¬ (1972 ≤ i) := fun q => h6 ((nI_leI (by omega) (by omega)).mpr q)
        refine lv_aload_n hx hb dX5_hold_9 rfl (lv_at hl 0 rfl) ?_
        refine va_get (D := G.1) (ci := 5) (v := .ref (m 3)) (C := RX5) (T := TX5) (N := 7) hx hb hts hinX5 hown hG.1 hP 0 rfl rfl 2 (by decide) hf16 (fun _ h9 => h9) rfl dX5_hold_10 ?_
        refine lv_iload_n hx hb dX5_hold_13 rfl (lv_at hl 1 rfl) ?_
        refine lv_aload_n hx hb dX5_hold_14 rfl (lv_at hl 0 rfl) ?_
        refine va_get (D := G.1) (ci := 5) (v := .ref (m 1)) (C := RX5) (T := TX5) (N := 7) hx hb hts hinX5 hown hG.1 hP 0 rfl rfl 0 (by decide) hf7 (fun _ h9 => h9) rfl dX5_hold_15 ?_
        refine lv_iload_n hx hb dX5_hold_18 rfl (lv_at hl 1 rfl) ?_
        refine va_iald hx hb hG.1 hP 1 0 rfl rfl (vp_in_nI (n := i) (N := 1972) (by omega) (by omega)) dX5_hold_19 ?_
        refine lv_topi (nm_r (e' := (sF σ) i) (by rw [nI_clamp (by omega)]) ?_)
        refine va_iast hx hb hG.1 hP hD hS 3 0 rfl rfl (vp_in_nI (n := i) (N := 1972) (by omega) (by omega)) dX5_hold_20 (fun H locs hP hD hS => ?_)
        rw [nI_clamp (show i < 2 ^ 31 by omega)] at hP hD
        have hP : va_P G.1 vwCl [(m 0, .inr (5, [.ref (m 1), .ref (m 2), .ref (m 3), .int (nI ns), .ref (m 4), .int (nI len), .ref (m 5)])), (m 1, .inl (G.2.1, 1972, .inl (sF σ))), (m 2, .inl (G.2.1, 7888, .inl (wF V))), (m 3, .inl (G.2.1, 1972, .inl (upd g i ((sF σ) i)))), (m 4, .inl (G.2.1, 100, .inl (fun i => nI (x i)))), (m 5, .inl (G.2.1, 36, .inl B))] H := hP
        have hD : va_D (zA (wM G m σ V ζ ns x len B)) [(m 0, .inr (5, [.ref (m 1), .ref (m 2), .ref (m 3), .int (nI ns), .ref (m 4), .int (nI len), .ref (m 5)])), (m 1, .inl (G.2.1, 1972, .inl (sF σ))), (m 2, .inl (G.2.1, 7888, .inl (wF V))), (m 3, .inl (G.2.1, 1972, .inl (upd g i ((sF σ) i)))), (m 4, .inl (G.2.1, 100, .inl (fun i => nI (x i)))), (m 5, .inl (G.2.1, 36, .inl B))] := hD
        refine lv_iinc (v := nI (i + 1)) (lv' := [(1, .int (nI (i + 1))), (0, .ref (m 0))]) hx hb dX5_hold_21 hl (k := 1) rfl (zinc1 _) (by decide) rfl (fun ls hl => ?_)
        refine lv_goto (tgt := 2) hx hb dX5_hold_24 (by decide) ?_
        exact ih2 (i + 1) (upd g i ((sF σ) i)) (fun j hj => by unfold upd; split; (rename_i q; rw [q]); exact hg j (by omega)) (by omega) (by omega) _ (lv_sub hl [1, 0] rfl) _ _ (hP) (hD) hS
  exact loop2 1973 0 (sF ζ) (fun j hj => absurd hj (Nat.not_lt_zero j)) (by omega) (by omega) _ (lv_sub hl [1, 0] rfl) _ _ (hP) (hD) hS
set_option maxHeartbeats 4000000 in
set_option maxRecDepth 100000 in
theorem kX5_restore (l : Launch) (G : zG) (m : Nat → Nat) (σ : Nat → Nat) (V : Nat → Nat → Nat) (ζ : Nat → Nat) (ns : Nat) (x : Nat → Nat) (len : Nat) (B : Nat → Int32)  (hd : va_D (fun _ => True) (wM G m σ V ζ ns x len B)) : Met l yX5_restore wsX5_restore (zRm 0 0) (zPc G [.ref (m 0)] (va_P G.1 vwCl (wM G m σ V ζ ns x len B))) (zQ (zA (wM G m σ V ζ ns x len B)) none (va_P G.1 vwCl (wM G m ζ V ζ ns x len B))) 0 0 (zA (wM G m σ V ζ ns x len B)) := by
  refine zmkWv (w := (wM G m σ V ζ ns x len B)) hd (cc := cX5_restore) (maxL := 2) (by decide) rfl (Nat.le_of_ble_eq_true rfl) ?_
  intro pr en st mi ar bl me cd ls Q hx hb hml hown hts hG hP hl hD hS hret
  have hown : st.vm.findClass RX5 = some mi.cls := hown
  have hl : lv_has ls 2 [(0, .ref (m 0))] := hl
  have hP : va_P G.1 vwCl (wM G m σ V ζ ns x len B) st.heap := hP
  have hD : va_D (zA (wM G m σ V ζ ns x len B)) (wM G m σ V ζ ns x len B) := hD
  have hinX5 : ∀ w ∈ wsX50, w ∈ wsX5_restore := by decide +kernel
  have hf7 := hts (.fieldLink RX5 7 "MapSheetsModel" "s" "[I") (by decide +kernel)
  have hf16 := hts (.fieldLink RX5 16 "MapSheetsModel" "aside" "[I") (by decide +kernel)
  refine lv_iconst (v := nI 0) hx hb dX5_restore_0 (by decide) ?_
  refine lv_istore_n (lv' := [(1, .int (nI 0)), (0, .ref (m 0))]) hx hb dX5_restore_1 rfl hl (by decide) rfl (fun ls hl => ?_)
  have loop2 : ∀ (n : Nat) (i : Nat) (g : Nat → Int32) (hg : ∀ j, j < i → g j = sF ζ j) (hi : i ≤ 1972) (hn : 1972 < i + n) (ls : Array Slot) (hl : lv_has ls 2 [(0, .ref (m 0)), (1, .int (nI i))]) (H : Heap) (locs : List Loc) (hP : va_P G.1 vwCl [(m 0, .inr (5, [.ref (m 1), .ref (m 2), .ref (m 3), .int (nI ns), .ref (m 4), .int (nI len), .ref (m 5)])), (m 1, .inl (G.2.1, 1972, .inl g)), (m 2, .inl (G.2.1, 7888, .inl (wF V))), (m 3, .inl (G.2.1, 1972, .inl (sF ζ))), (m 4, .inl (G.2.1, 100, .inl (fun i => nI (x i)))), (m 5, .inl (G.2.1, 36, .inl B))] H) (hD : va_D (zA (wM G m σ V ζ ns x len B)) [(m 0, .inr (5, [.ref (m 1), .ref (m 2), .ref (m 3), .int (nI ns), .ref (m 4), .int (nI len), .ref (m 5)])), (m 1, .inl (G.2.1, 1972, .inl g)), (m 2, .inl (G.2.1, 7888, .inl (wF V))), (m 3, .inl (G.2.1, 1972, .inl (sF ζ))), (m 4, .inl (G.2.1, 100, .inl (fun i => nI (x i)))), (m 5, .inl (G.2.1, 36, .inl B))]) (hS : va_S (zA (wM G m σ V ζ ns x len B)) st.heap H locs), W pr l en (zRm 0 0) st mi ar bl me cd H locs 0 0 Q (F0 mi 2 ls []) := by
    intro n
    induction n with
    | zero => intro i g hg hi hn ls hl H locs hP hD hS; exfalso; omega
    | succ n ih2 =>
      intro i g hg hi hn ls hl H locs hP hD hS
      refine lv_iload_n hx hb dX5_restore_2 rfl (lv_at hl 1 rfl) ?_
      refine lv_sipush (v := nI 1972) hx hb dX5_restore_3 (by decide) ?_
      refine lv_icmp_ge (tgt := 27) hx hb dX5_restore_6 (by decide) (fun h6 => ?_) (fun h6 => ?_)
      · skip
        have h6 : 1972 ≤ i := (nI_leI (by omega) (by omega)).mp h6
        exact hret _ _ _ _ dX5_restore_27 hS (wM_s (fun j hj => hg j (by omega)) (fun j _ => rfl) (fun j _ => rfl) (fun j _ => rfl) hP)
      · skip
        have h6 : ¬ (1972 ≤ i) := fun q => h6 ((nI_leI (by omega) (by omega)).mpr q)
        refine lv_aload_n hx hb dX5_restore_9 rfl (lv_at hl 0 rfl) ?_
        refine va_get (D := G.1) (ci := 5) (v := .ref (m 1)) (C := RX5) (T := TX5) (N := 7) hx hb hts hinX5 hown hG.1 hP 0 rfl rfl 0 (by decide) hf7 (fun _ h9 => h9) rfl dX5_restore_10 ?_
        refine lv_iload_n hx hb dX5_restore_13 rfl (lv_at hl 1 rfl) ?_
        refine lv_aload_n hx hb dX5_restore_14 rfl (lv_at hl 0 rfl) ?_
        refine va_get (D := G.1) (ci := 5) (v := .ref (m 3)) (C := RX5) (T := TX5) (N := 7) hx hb hts hinX5 hown hG.1 hP 0 rfl rfl 2 (by decide) hf16 (fun _ h9 => h9) rfl dX5_restore_15 ?_
        refine lv_iload_n hx hb dX5_restore_18 rfl (lv_at hl 1 rfl) ?_
        refine va_iald hx hb hG.1 hP 3 0 rfl rfl (vp_in_nI (n := i) (N := 1972) (by omega) (by omega)) dX5_restore_19 ?_
        refine lv_topi (nm_r (e' := (sF ζ) i) (by rw [nI_clamp (by omega)]) ?_)
        refine va_iast hx hb hG.1 hP hD hS 1 0 rfl rfl (vp_in_nI (n := i) (N := 1972) (by omega) (by omega)) dX5_restore_20 (fun H locs hP hD hS => ?_)
        rw [nI_clamp (show i < 2 ^ 31 by omega)] at hP hD
        have hP : va_P G.1 vwCl [(m 0, .inr (5, [.ref (m 1), .ref (m 2), .ref (m 3), .int (nI ns), .ref (m 4), .int (nI len), .ref (m 5)])), (m 1, .inl (G.2.1, 1972, .inl (upd g i ((sF ζ) i)))), (m 2, .inl (G.2.1, 7888, .inl (wF V))), (m 3, .inl (G.2.1, 1972, .inl (sF ζ))), (m 4, .inl (G.2.1, 100, .inl (fun i => nI (x i)))), (m 5, .inl (G.2.1, 36, .inl B))] H := hP
        have hD : va_D (zA (wM G m σ V ζ ns x len B)) [(m 0, .inr (5, [.ref (m 1), .ref (m 2), .ref (m 3), .int (nI ns), .ref (m 4), .int (nI len), .ref (m 5)])), (m 1, .inl (G.2.1, 1972, .inl (upd g i ((sF ζ) i)))), (m 2, .inl (G.2.1, 7888, .inl (wF V))), (m 3, .inl (G.2.1, 1972, .inl (sF ζ))), (m 4, .inl (G.2.1, 100, .inl (fun i => nI (x i)))), (m 5, .inl (G.2.1, 36, .inl B))] := hD
        refine lv_iinc (v := nI (i + 1)) (lv' := [(1, .int (nI (i + 1))), (0, .ref (m 0))]) hx hb dX5_restore_21 hl (k := 1) rfl (zinc1 _) (by decide) rfl (fun ls hl => ?_)
        refine lv_goto (tgt := 2) hx hb dX5_restore_24 (by decide) ?_
        exact ih2 (i + 1) (upd g i ((sF ζ) i)) (fun j hj => by unfold upd; split; (rename_i q; rw [q]); exact hg j (by omega)) (by omega) (by omega) _ (lv_sub hl [1, 0] rfl) _ _ (hP) (hD) hS
  exact loop2 1973 0 (sF σ) (fun j hj => absurd hj (Nat.not_lt_zero j)) (by omega) (by omega) _ (lv_sub hl [1, 0] rfl) _ _ (hP) (hD) hS
